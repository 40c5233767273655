/-! ===== each instruction of the abstract machine is a step of the real one ===== -/
theorem a_kc {n : Nat} {v : Value} {r : List Value} (hv : a_rk n v) (hr : ∀ u ∈ r, a_rk n u) : ∀ u ∈ v :: r, a_rk n u := fun u hu => (List.mem_cons.mp hu).elim (fun e => by rw [e]; exact hv) (hr u)
theorem a_tl {n : Nat} {v : Value} {r : List Value} (h : ∀ u ∈ v :: r, a_rk n u) : ∀ u ∈ r, a_rk n u := fun u hu => h u (List.mem_cons_of_mem _ hu)
theorem a_hd {n : Nat} {v : Value} {r : List Value} (h : ∀ u ∈ v :: r, a_rk n u) : a_rk n v := h v List.mem_cons_self
theorem nx_inl {pc : Nat} {ls : AL} {st : List Value} {w : AW} {N : AN} (h : a_nx pc ls st w = some N) : N = (pc, ls, st, w, 0, 0) := (Option.some.inj h).symm
theorem to_inl {pc : Nat} {off : Int} {ls : AL} {st : List Value} {w : AW} {N : AN} (h : a_to pc off ls st w = some N) : ∃ t : Nat, (pc : Int) + off = (t : Int) ∧ N = (t, ls, st, w, 0, 0) := by
  unfold a_to at h
  split at h
  · rename_i h0
    exact ⟨((pc : Int) + off).toNat, (Int.toNat_of_nonneg h0).symm, nx_inl h⟩
  · cases h
theorem jmp_inl {q : Prop} [Decidable q] {pc : Nat} {off : Int} {ls : AL} {st : List Value} {w : AW} {N : AN} (h : a_jmp q pc off ls st w = some N) : ∃ t : Nat, (pc : Int) + off = (t : Int) ∧ ((q ∧ N = (t, ls, st, w, 0, 0)) ∨ (¬ q ∧ N = (pc + 3, ls, st, w, 0, 0))) := by
  unfold a_jmp at h
  split at h
  · rename_i h0
    refine ⟨((pc : Int) + off).toNat, (Int.toNat_of_nonneg h0).symm, ?_⟩
    split at h
    · rename_i h1
      exact Or.inl ⟨h1, nx_inl h⟩
    · rename_i h1
      exact Or.inr ⟨h1, nx_inl h⟩
  · cases h
theorem i1_inl {f : Int32 → Int32} {pc : Nat} {ls : AL} {st : List Value} {w : AW} {N : AN} (h : a_i1 f pc ls st w = some N) : ∃ (x : Int32) (r : List Value), st = .int x :: r ∧ N = (pc + 1, ls, .int (f x) :: r, w, 0, 0) := by
  unfold a_i1 at h
  split at h
  · exact ⟨_, _, rfl, nx_inl h⟩
  · cases h
theorem i2_inl {f : Int32 → Int32 → Int32} {pc : Nat} {ls : AL} {st : List Value} {w : AW} {N : AN} (h : a_i2 f pc ls st w = some N) : ∃ (x y : Int32) (r : List Value), st = .int y :: .int x :: r ∧ N = (pc + 1, ls, .int (f x y) :: r, w, 0, 0) := by
  unfold a_i2 at h
  split at h
  · exact ⟨_, _, _, rfl, nx_inl h⟩
  · cases h
theorem i2z_inl {f : Int32 → Int32 → Int32} {pc : Nat} {ls : AL} {st : List Value} {w : AW} {N : AN} (h : a_i2z f pc ls st w = some N) : ∃ (x y : Int32) (r : List Value), st = .int y :: .int x :: r ∧ ¬ y = 0 ∧ N = (pc + 1, ls, .int (f x y) :: r, w, 0, 0) := by
  unfold a_i2z at h
  split at h
  · split at h
    · cases h
    · rename_i h0
      exact ⟨_, _, _, rfl, h0, nx_inl h⟩
  · cases h
theorem l2_inl {f : Int64 → Int64 → Int64} {pc : Nat} {ls : AL} {st : List Value} {w : AW} {N : AN} (h : a_l2 f pc ls st w = some N) : ∃ (x y : Int64) (r : List Value), st = .long y :: .long x :: r ∧ N = (pc + 1, ls, .long (f x y) :: r, w, 0, 0) := by
  unfold a_l2 at h
  split at h
  · exact ⟨_, _, _, rfl, nx_inl h⟩
  · cases h
theorem l2z_inl {f : Int64 → Int64 → Int64} {pc : Nat} {ls : AL} {st : List Value} {w : AW} {N : AN} (h : a_l2z f pc ls st w = some N) : ∃ (x y : Int64) (r : List Value), st = .long y :: .long x :: r ∧ ¬ y = 0 ∧ N = (pc + 1, ls, .long (f x y) :: r, w, 0, 0) := by
  unfold a_l2z at h
  split at h
  · split at h
    · cases h
    · rename_i h0
      exact ⟨_, _, _, rfl, h0, nx_inl h⟩
  · cases h
abbrev a_Go (adK : Nat → Nat) (b : Nat) (D : va_G) (cA : Nat → ClassId) (A : Nat → Prop) (p : Program) (l : Launch) (e : Env) (R : Room) (s : State) (m : MethodId) (args : Array Value) (below : List Frame) (meth : Method) (c : Code) (Q : State → Prop) (k : Nat) (θ : Nat → Nat) (w : AW) (nc ns : Nat) (N : AN) : Prop :=
  ∀ (θ' : Nat → Nat) (H' : Heap) (locs' : List Loc) (sl' : Array Slot), a_ex w.length θ θ' → a_I D cA adK b A s H' locs' θ' N.2.2.2.1 → a_F θ' N.2.2.2.1 (mX k) sl' N.2.1 N.2.2.1 → W p l e R s m args below meth c H' locs' (nc + N.2.2.2.2.1) (ns + N.2.2.2.2.2) Q (F0 m N.1 sl' (N.2.2.1.map (a_V θ')))
section AINS
variable {p : Program} {l : Launch} {e : Env} {R : Room} {s : State} {m : MethodId} {args : Array Value} {below : List Frame} {meth : Method} {c : Code} {H : Heap} {locs : List Loc} {Q : State → Prop}
variable {adK adV : Nat → Nat} {b : Nat} {sc : List Int32} {D : va_G} {cA : Nat → ClassId} {A : Nat → Prop} {θ : Nat → Nat} {w : AW} {ls : AL} {st : List Value} {sl : Array Slot} {d k pc len nc ns : Nat} {N : AN}
theorem a_X.kN (hX : a_X adK adV b sc D cA A p l R s m args meth c d k) : k < mN := hX.2.2.2.2.2.2.2.2.2.2
theorem a_X.kc (hX : a_X adK adV b sc D cA A p l R s m args meth c d k) : mK k < 10 := (mPb_f hX.kN).2.2.2.2.2.2.1
theorem a_X.K (hX : a_X adK adV b sc D cA A p l R s m args meth c d k) : va_K D vwCl (a_ty cA) s := hX.2.2.2.2.2.1
theorem a_X.E (hX : a_X adK adV b sc D cA A p l R s m args meth c d k) : a_Env adK adV b sc A s s.heap := hX.2.2.2.2.2.2.1
theorem a_X.aA (hX : a_X adK adV b sc D cA A p l R s m args meth c d k) : ∀ q : Nat, s.heap.size ≤ q → A q := hX.2.2.2.2.2.2.2.1
theorem a_X.f (hX : a_X adK adV b sc D cA A p l R s m args meth c d k) : d ≤ R.frames := hX.2.2.2.2.2.2.2.2.1
theorem a_X.lo (hX : a_X adK adV b sc D cA A p l R s m args meth c d k) : a_lo d ≤ R.locals := hX.2.2.2.2.2.2.2.2.2.1
theorem s_iconst (hX : a_X adK adV b sc D cA A p l R s m args meth c d k) (hI : a_I D cA adK b A s H locs θ w) (hF : a_F θ w (mX k) sl ls st) {n : Int} (hd : mLk k pc = some (.iconst n, len)) (h0 : ins sc d k pc ls st w (.iconst n) = some N) (hr : nc + N.2.2.2.2.1 ≤ R.cells ∧ ns + N.2.2.2.2.2 ≤ R.slots) (K : a_Go adK b D cA A p l e R s m args below meth c Q k θ w nc ns N) : W p l e R s m args below meth c H locs nc ns Q (F0 m pc sl (st.map (a_V θ))) := by
  obtain ⟨⟨hx, hb, hml, hown, hts⟩, -⟩ := id hX
  have h := nx_inl h0
  subst h
  exact lv_iconst hx hb (a_dec1 hX.kN hd rfl) rfl (K θ H locs sl a_ex_rf hI (hF.st (a_kc (a_rk_int _) hF.2.2)))
theorem s_bipush (hX : a_X adK adV b sc D cA A p l R s m args meth c d k) (hI : a_I D cA adK b A s H locs θ w) (hF : a_F θ w (mX k) sl ls st) {n : Int} (hd : mLk k pc = some (.bipush n, len)) (h0 : ins sc d k pc ls st w (.bipush n) = some N) (hr : nc + N.2.2.2.2.1 ≤ R.cells ∧ ns + N.2.2.2.2.2 ≤ R.slots) (K : a_Go adK b D cA A p l e R s m args below meth c Q k θ w nc ns N) : W p l e R s m args below meth c H locs nc ns Q (F0 m pc sl (st.map (a_V θ))) := by
  obtain ⟨⟨hx, hb, hml, hown, hts⟩, -⟩ := id hX
  have h := nx_inl h0
  subst h
  exact lv_bipush hx hb (a_dec1 hX.kN hd rfl) rfl (K θ H locs sl a_ex_rf hI (hF.st (a_kc (a_rk_int _) hF.2.2)))
theorem s_sipush (hX : a_X adK adV b sc D cA A p l R s m args meth c d k) (hI : a_I D cA adK b A s H locs θ w) (hF : a_F θ w (mX k) sl ls st) {n : Int} (hd : mLk k pc = some (.sipush n, len)) (h0 : ins sc d k pc ls st w (.sipush n) = some N) (hr : nc + N.2.2.2.2.1 ≤ R.cells ∧ ns + N.2.2.2.2.2 ≤ R.slots) (K : a_Go adK b D cA A p l e R s m args below meth c Q k θ w nc ns N) : W p l e R s m args below meth c H locs nc ns Q (F0 m pc sl (st.map (a_V θ))) := by
  obtain ⟨⟨hx, hb, hml, hown, hts⟩, -⟩ := id hX
  have h := nx_inl h0
  subst h
  exact lv_sipush hx hb (a_dec1 hX.kN hd rfl) rfl (K θ H locs sl a_ex_rf hI (hF.st (a_kc (a_rk_int _) hF.2.2)))
theorem s_lconst (hX : a_X adK adV b sc D cA A p l R s m args meth c d k) (hI : a_I D cA adK b A s H locs θ w) (hF : a_F θ w (mX k) sl ls st) {n : Fin 2} (hd : mLk k pc = some (.lconst n, len)) (h0 : ins sc d k pc ls st w (.lconst n) = some N) (hr : nc + N.2.2.2.2.1 ≤ R.cells ∧ ns + N.2.2.2.2.2 ≤ R.slots) (K : a_Go adK b D cA A p l e R s m args below meth c Q k θ w nc ns N) : W p l e R s m args below meth c H locs nc ns Q (F0 m pc sl (st.map (a_V θ))) := by
  obtain ⟨⟨hx, hb, hml, hown, hts⟩, -⟩ := id hX
  have h := nx_inl h0
  subst h
  exact lv_lconst hx hb (a_dec1 hX.kN hd rfl) rfl (K θ H locs sl a_ex_rf hI (hF.st (a_kc (a_rk_long _) hF.2.2)))
theorem ldc_inl {x : Nat} (h : a_ldc (mK k) x pc ls st w = some N) : (∃ v : Int32, a_lk (kI (mK k)) x = some v ∧ N = (pc, ls, .int v :: st, w, 0, 0)) ∨ (∃ i : Nat, a_lk (kS (mK k)) x = some i ∧ i < sN ∧ N = (pc, ls, .ref (a_SB + i) :: st, w, 0, 0)) := by
  unfold a_ldc at h
  split at h
  · rename_i v hv
    exact Or.inl ⟨v, hv, nx_inl h⟩
  · split at h
    · rename_i i hi
      split at h
      · rename_i h1
        exact Or.inr ⟨i, hi, h1, nx_inl h⟩
      · cases h
    · cases h
theorem kS_ok : ((List.range 10).all fun c => (kS c).all fun q => decide (q.2 < sN) && (decide (sC q.2 = c) && decide (sP q.2 = q.1))) = true := by decide +kernel
theorem a_kS {c x i : Nat} (hc : c < 10) (h : a_lk (kS c) x = some i) : i < sN ∧ sC i = c ∧ sP i = x := by
  have hm := a_lk_mem h
  have h1 := List.all_eq_true.mp (List.all_eq_true.mp kS_ok c (List.mem_range.mpr hc)) _ hm
  simpa using h1
theorem a_str (hX : a_X adK adV b sc D cA A p l R s m args meth c d k) {x i : Nat} (h : a_lk (kS (mK k)) x = some i) : vk_R (RN (mK k)) x (sT i) (adK i) s := by
  obtain ⟨h1, h2, h3⟩ := a_kS hX.kc h
  have h4 := (hX.E.1 i h1).1
  rw [h2, h3] at h4
  exact h4
theorem va_ldcSw {cc : ByteArray} {cells slots : Nat} {ls9 : Array Slot} {rest : List Value} (hexec : p.tables.exec = Jvm.exec) (hb : c.code = cc) {own tx : String} {index q : Nat} (hown : s.vm.findClass own = some m.cls) (hZ : vk_R own index tx q s) (hdg : decode cc pc = .ok (.ldc_w index, 3))
    (kk : W p l e R s m args below meth c H locs cells slots Q (F0 m (pc + 3) ls9 (.ref q :: rest))) : W p l e R s m args below meth c H locs cells slots Q (F0 m pc ls9 rest) := by
  intro T hT X
  obtain ⟨t, a1, b1⟩ := kk T hT X
  exact ⟨t, X.ldcStringW hexec hown (text := tx) (a := q) hZ.1 hZ.2 (g := F0 m pc ls9 rest) rfl (by rw [hb]; exact hdg) t a1, b1⟩
theorem a_SBk {n i : Nat} : a_rk n (.ref (a_SB + i)) := a_rk_ref (Or.inr (by unfold a_SB a_SC; omega))
theorem s_ldc (hX : a_X adK adV b sc D cA A p l R s m args meth c d k) (hI : a_I D cA adK b A s H locs θ w) (hF : a_F θ w (mX k) sl ls st) {x : Nat} (hd : mLk k pc = some (.ldc x, len)) (h0 : ins sc d k pc ls st w (.ldc x) = some N) (hr : nc + N.2.2.2.2.1 ≤ R.cells ∧ ns + N.2.2.2.2.2 ≤ R.slots) (K : a_Go adK b D cA A p l e R s m args below meth c Q k θ w nc ns N) : W p l e R s m args below meth c H locs nc ns Q (F0 m pc sl (st.map (a_V θ))) := by
  obtain ⟨⟨hx, hb, hml, hown, hts⟩, -⟩ := id hX
  rcases ldc_inl h0 with ⟨v, hv, rfl⟩ | ⟨i, hi, hn, rfl⟩
  · exact lv_ldc hx hb hown (hts (wI (mK k) (x, v)) (a_inKI hX.kc (a_lk_mem hv))) (a_dec1 hX.kN hd rfl) (K θ H locs sl a_ex_rf hI (hF.st (a_kc (a_rk_int _) hF.2.2)))
  · have e1 : θ (a_SB + i) = adK i := hI.2.2.2.2.2.2 i hn
    have K1 := K θ H locs sl a_ex_rf hI (hF.st (a_kc a_SBk hF.2.2))
    refine va_ldcS hx hb hown (a_str hX hi) (a_dec1 hX.kN hd rfl) ?_
    rw [← e1]
    exact K1
theorem s_ldcw (hX : a_X adK adV b sc D cA A p l R s m args meth c d k) (hI : a_I D cA adK b A s H locs θ w) (hF : a_F θ w (mX k) sl ls st) {x : Nat} (hd : mLk k pc = some (.ldc_w x, len)) (h0 : ins sc d k pc ls st w (.ldc_w x) = some N) (hr : nc + N.2.2.2.2.1 ≤ R.cells ∧ ns + N.2.2.2.2.2 ≤ R.slots) (K : a_Go adK b D cA A p l e R s m args below meth c Q k θ w nc ns N) : W p l e R s m args below meth c H locs nc ns Q (F0 m pc sl (st.map (a_V θ))) := by
  obtain ⟨⟨hx, hb, hml, hown, hts⟩, -⟩ := id hX
  rcases ldc_inl h0 with ⟨v, hv, rfl⟩ | ⟨i, hi, hn, rfl⟩
  · exact lv_ldcw hx hb hown (hts (wI (mK k) (x, v)) (a_inKI hX.kc (a_lk_mem hv))) (a_dec1 hX.kN hd rfl) (K θ H locs sl a_ex_rf hI (hF.st (a_kc (a_rk_int _) hF.2.2)))
  · have e1 : θ (a_SB + i) = adK i := hI.2.2.2.2.2.2 i hn
    have K1 := K θ H locs sl a_ex_rf hI (hF.st (a_kc a_SBk hF.2.2))
    refine va_ldcSw hx hb hown (a_str hX hi) (a_dec1 hX.kN hd rfl) ?_
    rw [← e1]
    exact K1
theorem ldc2_inl {x : Nat} (h : a_ldc2 (mK k) x pc ls st w = some N) : ∃ v : Int64, a_lk (kL (mK k)) x = some v ∧ N = (pc, ls, .long v :: st, w, 0, 0) := by
  unfold a_ldc2 at h
  split at h
  · rename_i v hv
    exact ⟨v, hv, nx_inl h⟩
  · cases h
theorem s_ldc2 (hX : a_X adK adV b sc D cA A p l R s m args meth c d k) (hI : a_I D cA adK b A s H locs θ w) (hF : a_F θ w (mX k) sl ls st) {x : Nat} (hd : mLk k pc = some (.ldc2_w x, len)) (h0 : ins sc d k pc ls st w (.ldc2_w x) = some N) (hr : nc + N.2.2.2.2.1 ≤ R.cells ∧ ns + N.2.2.2.2.2 ≤ R.slots) (K : a_Go adK b D cA A p l e R s m args below meth c Q k θ w nc ns N) : W p l e R s m args below meth c H locs nc ns Q (F0 m pc sl (st.map (a_V θ))) := by
  obtain ⟨⟨hx, hb, hml, hown, hts⟩, -⟩ := id hX
  obtain ⟨v, hv, rfl⟩ := ldc2_inl h0
  exact lv_ldc2 hx hb hown (hts (wL (mK k) (x, v)) (a_inKL hX.kc (a_lk_mem hv))) (a_dec1 hX.kN hd rfl) (K θ H locs sl a_ex_rf hI (hF.st (a_kc (a_rk_long _) hF.2.2)))
theorem ldI_inl {v : Option Value} (h : a_ldI v pc ls st w = some N) : ∃ x : Int32, v = some (.int x) ∧ N = (pc, ls, .int x :: st, w, 0, 0) := by
  unfold a_ldI at h
  split at h
  · exact ⟨_, rfl, nx_inl h⟩
  · cases h
theorem ldL_inl {v : Option Value} (h : a_ldL v pc ls st w = some N) : ∃ x : Int64, v = some (.long x) ∧ N = (pc, ls, .long x :: st, w, 0, 0) := by
  unfold a_ldL at h
  split at h
  · exact ⟨_, rfl, nx_inl h⟩
  · cases h
theorem ldA_inl {v : Option Value} (h : a_ldA v pc ls st w = some N) : ∃ x : Nat, v = some (.ref x) ∧ N = (pc, ls, .ref x :: st, w, 0, 0) := by
  unfold a_ldA at h
  split at h
  · exact ⟨_, rfl, nx_inl h⟩
  · cases h
theorem s_iload (hX : a_X adK adV b sc D cA A p l R s m args meth c d k) (hI : a_I D cA adK b A s H locs θ w) (hF : a_F θ w (mX k) sl ls st) {i : Nat} (hd : mLk k pc = some (.iload i, len)) (h0 : ins sc d k pc ls st w (.iload i) = some N) (hr : nc + N.2.2.2.2.1 ≤ R.cells ∧ ns + N.2.2.2.2.2 ≤ R.slots) (K : a_Go adK b D cA A p l e R s m args below meth c Q k θ w nc ns N) : W p l e R s m args below meth c H locs nc ns Q (F0 m pc sl (st.map (a_V θ))) := by
  obtain ⟨⟨hx, hb, hml, hown, hts⟩, -⟩ := id hX
  obtain ⟨x, hv, rfl⟩ := ldI_inl h0
  exact lv_iload hx hb (a_dec1 hX.kN hd rfl) (hF.at hv) (K θ H locs sl a_ex_rf hI (hF.st (a_kc (a_rk_int _) hF.2.2)))
theorem s_iloadn (hX : a_X adK adV b sc D cA A p l R s m args meth c d k) (hI : a_I D cA adK b A s H locs θ w) (hF : a_F θ w (mX k) sl ls st) {i : Fin 4} (hd : mLk k pc = some (.iload_n i, len)) (h0 : ins sc d k pc ls st w (.iload_n i) = some N) (hr : nc + N.2.2.2.2.1 ≤ R.cells ∧ ns + N.2.2.2.2.2 ≤ R.slots) (K : a_Go adK b D cA A p l e R s m args below meth c Q k θ w nc ns N) : W p l e R s m args below meth c H locs nc ns Q (F0 m pc sl (st.map (a_V θ))) := by
  obtain ⟨⟨hx, hb, hml, hown, hts⟩, -⟩ := id hX
  obtain ⟨x, hv, rfl⟩ := ldI_inl h0
  exact lv_iload_n hx hb (a_dec1 hX.kN hd rfl) rfl (hF.at hv) (K θ H locs sl a_ex_rf hI (hF.st (a_kc (a_rk_int _) hF.2.2)))
theorem s_lload (hX : a_X adK adV b sc D cA A p l R s m args meth c d k) (hI : a_I D cA adK b A s H locs θ w) (hF : a_F θ w (mX k) sl ls st) {i : Nat} (hd : mLk k pc = some (.lload i, len)) (h0 : ins sc d k pc ls st w (.lload i) = some N) (hr : nc + N.2.2.2.2.1 ≤ R.cells ∧ ns + N.2.2.2.2.2 ≤ R.slots) (K : a_Go adK b D cA A p l e R s m args below meth c Q k θ w nc ns N) : W p l e R s m args below meth c H locs nc ns Q (F0 m pc sl (st.map (a_V θ))) := by
  obtain ⟨⟨hx, hb, hml, hown, hts⟩, -⟩ := id hX
  obtain ⟨x, hv, rfl⟩ := ldL_inl h0
  exact lv_lload hx hb (a_dec1 hX.kN hd rfl) (hF.at hv) (K θ H locs sl a_ex_rf hI (hF.st (a_kc (a_rk_long _) hF.2.2)))
theorem s_lloadn (hX : a_X adK adV b sc D cA A p l R s m args meth c d k) (hI : a_I D cA adK b A s H locs θ w) (hF : a_F θ w (mX k) sl ls st) {i : Fin 4} (hd : mLk k pc = some (.lload_n i, len)) (h0 : ins sc d k pc ls st w (.lload_n i) = some N) (hr : nc + N.2.2.2.2.1 ≤ R.cells ∧ ns + N.2.2.2.2.2 ≤ R.slots) (K : a_Go adK b D cA A p l e R s m args below meth c Q k θ w nc ns N) : W p l e R s m args below meth c H locs nc ns Q (F0 m pc sl (st.map (a_V θ))) := by
  obtain ⟨⟨hx, hb, hml, hown, hts⟩, -⟩ := id hX
  obtain ⟨x, hv, rfl⟩ := ldL_inl h0
  exact lv_lload_n hx hb (a_dec1 hX.kN hd rfl) rfl (hF.at hv) (K θ H locs sl a_ex_rf hI (hF.st (a_kc (a_rk_long _) hF.2.2)))
theorem s_aload (hX : a_X adK adV b sc D cA A p l R s m args meth c d k) (hI : a_I D cA adK b A s H locs θ w) (hF : a_F θ w (mX k) sl ls st) {i : Nat} (hd : mLk k pc = some (.aload i, len)) (h0 : ins sc d k pc ls st w (.aload i) = some N) (hr : nc + N.2.2.2.2.1 ≤ R.cells ∧ ns + N.2.2.2.2.2 ≤ R.slots) (K : a_Go adK b D cA A p l e R s m args below meth c Q k θ w nc ns N) : W p l e R s m args below meth c H locs nc ns Q (F0 m pc sl (st.map (a_V θ))) := by
  obtain ⟨⟨hx, hb, hml, hown, hts⟩, -⟩ := id hX
  obtain ⟨x, hv, rfl⟩ := ldA_inl h0
  exact lv_aload hx hb (a_dec1 hX.kN hd rfl) (hF.at hv) (K θ H locs sl a_ex_rf hI (hF.st (a_kc (hF.known hv) hF.2.2)))
theorem s_aloadn (hX : a_X adK adV b sc D cA A p l R s m args meth c d k) (hI : a_I D cA adK b A s H locs θ w) (hF : a_F θ w (mX k) sl ls st) {i : Fin 4} (hd : mLk k pc = some (.aload_n i, len)) (h0 : ins sc d k pc ls st w (.aload_n i) = some N) (hr : nc + N.2.2.2.2.1 ≤ R.cells ∧ ns + N.2.2.2.2.2 ≤ R.slots) (K : a_Go adK b D cA A p l e R s m args below meth c Q k θ w nc ns N) : W p l e R s m args below meth c H locs nc ns Q (F0 m pc sl (st.map (a_V θ))) := by
  obtain ⟨⟨hx, hb, hml, hown, hts⟩, -⟩ := id hX
  obtain ⟨x, hv, rfl⟩ := ldA_inl h0
  exact lv_aload_n hx hb (a_dec1 hX.kN hd rfl) rfl (hF.at hv) (K θ H locs sl a_ex_rf hI (hF.st (a_kc (hF.known hv) hF.2.2)))
theorem stI_inl {n i : Nat} (h : a_stI n i pc ls st w = some N) : ∃ (x : Int32) (r : List Value), st = .int x :: r ∧ i < n ∧ N = (pc, a_s1 ls i (.int x), r, w, 0, 0) := by
  unfold a_stI at h
  split at h
  · split at h
    · rename_i h1
      exact ⟨_, _, rfl, h1, nx_inl h⟩
    · cases h
  · cases h
theorem stL_inl {n i : Nat} (h : a_stL n i pc ls st w = some N) : ∃ (x : Int64) (r : List Value), st = .long x :: r ∧ i + 1 < n ∧ N = (pc, a_s2 ls i (.long x), r, w, 0, 0) := by
  unfold a_stL at h
  split at h
  · split at h
    · rename_i h1
      exact ⟨_, _, rfl, h1, nx_inl h⟩
    · cases h
  · cases h
theorem stA_inl {n i : Nat} (h : a_stA n i pc ls st w = some N) : ∃ (x : Nat) (r : List Value), st = .ref x :: r ∧ i < n ∧ N = (pc, a_s1 ls i (.ref x), r, w, 0, 0) := by
  unfold a_stA at h
  split at h
  · split at h
    · rename_i h1
      exact ⟨_, _, rfl, h1, nx_inl h⟩
    · cases h
  · cases h
theorem s_istore (hX : a_X adK adV b sc D cA A p l R s m args meth c d k) (hI : a_I D cA adK b A s H locs θ w) (hF : a_F θ w (mX k) sl ls st) {i : Nat} (hd : mLk k pc = some (.istore i, len)) (h0 : ins sc d k pc ls st w (.istore i) = some N) (hr : nc + N.2.2.2.2.1 ≤ R.cells ∧ ns + N.2.2.2.2.2 ≤ R.slots) (K : a_Go adK b D cA A p l e R s m args below meth c Q k θ w nc ns N) : W p l e R s m args below meth c H locs nc ns Q (F0 m pc sl (st.map (a_V θ))) := by
  obtain ⟨⟨hx, hb, hml, hown, hts⟩, -⟩ := id hX
  obtain ⟨x, r, rfl, hn, rfl⟩ := stI_inl h0
  exact lv_istore hx hb (a_dec1 hX.kN hd rfl) hF.1 hn (a_s1_map θ ls i (.int x)) (fun sl' hl' => K θ H locs sl' a_ex_rf hI ⟨hl', a_s1_ok hF.2.1 (a_hd hF.2.2), a_tl hF.2.2⟩)
theorem s_istoren (hX : a_X adK adV b sc D cA A p l R s m args meth c d k) (hI : a_I D cA adK b A s H locs θ w) (hF : a_F θ w (mX k) sl ls st) {i : Fin 4} (hd : mLk k pc = some (.istore_n i, len)) (h0 : ins sc d k pc ls st w (.istore_n i) = some N) (hr : nc + N.2.2.2.2.1 ≤ R.cells ∧ ns + N.2.2.2.2.2 ≤ R.slots) (K : a_Go adK b D cA A p l e R s m args below meth c Q k θ w nc ns N) : W p l e R s m args below meth c H locs nc ns Q (F0 m pc sl (st.map (a_V θ))) := by
  obtain ⟨⟨hx, hb, hml, hown, hts⟩, -⟩ := id hX
  obtain ⟨x, r, rfl, hn, rfl⟩ := stI_inl h0
  exact lv_istore_n hx hb (a_dec1 hX.kN hd rfl) rfl hF.1 hn (a_s1_map θ ls (i : Nat) (.int x)) (fun sl' hl' => K θ H locs sl' a_ex_rf hI ⟨hl', a_s1_ok hF.2.1 (a_hd hF.2.2), a_tl hF.2.2⟩)
theorem s_lstore (hX : a_X adK adV b sc D cA A p l R s m args meth c d k) (hI : a_I D cA adK b A s H locs θ w) (hF : a_F θ w (mX k) sl ls st) {i : Nat} (hd : mLk k pc = some (.lstore i, len)) (h0 : ins sc d k pc ls st w (.lstore i) = some N) (hr : nc + N.2.2.2.2.1 ≤ R.cells ∧ ns + N.2.2.2.2.2 ≤ R.slots) (K : a_Go adK b D cA A p l e R s m args below meth c Q k θ w nc ns N) : W p l e R s m args below meth c H locs nc ns Q (F0 m pc sl (st.map (a_V θ))) := by
  obtain ⟨⟨hx, hb, hml, hown, hts⟩, -⟩ := id hX
  obtain ⟨x, r, rfl, hn, rfl⟩ := stL_inl h0
  exact lv_lstore hx hb (a_dec1 hX.kN hd rfl) hF.1 hn (a_s2_map θ ls i (.long x)) (fun sl' hl' => K θ H locs sl' a_ex_rf hI ⟨hl', a_s2_ok hF.2.1 (a_hd hF.2.2), a_tl hF.2.2⟩)
theorem s_lstoren (hX : a_X adK adV b sc D cA A p l R s m args meth c d k) (hI : a_I D cA adK b A s H locs θ w) (hF : a_F θ w (mX k) sl ls st) {i : Fin 4} (hd : mLk k pc = some (.lstore_n i, len)) (h0 : ins sc d k pc ls st w (.lstore_n i) = some N) (hr : nc + N.2.2.2.2.1 ≤ R.cells ∧ ns + N.2.2.2.2.2 ≤ R.slots) (K : a_Go adK b D cA A p l e R s m args below meth c Q k θ w nc ns N) : W p l e R s m args below meth c H locs nc ns Q (F0 m pc sl (st.map (a_V θ))) := by
  obtain ⟨⟨hx, hb, hml, hown, hts⟩, -⟩ := id hX
  obtain ⟨x, r, rfl, hn, rfl⟩ := stL_inl h0
  exact lv_lstore_n hx hb (a_dec1 hX.kN hd rfl) rfl hF.1 hn (a_s2_map θ ls (i : Nat) (.long x)) (fun sl' hl' => K θ H locs sl' a_ex_rf hI ⟨hl', a_s2_ok hF.2.1 (a_hd hF.2.2), a_tl hF.2.2⟩)
theorem s_astore (hX : a_X adK adV b sc D cA A p l R s m args meth c d k) (hI : a_I D cA adK b A s H locs θ w) (hF : a_F θ w (mX k) sl ls st) {i : Nat} (hd : mLk k pc = some (.astore i, len)) (h0 : ins sc d k pc ls st w (.astore i) = some N) (hr : nc + N.2.2.2.2.1 ≤ R.cells ∧ ns + N.2.2.2.2.2 ≤ R.slots) (K : a_Go adK b D cA A p l e R s m args below meth c Q k θ w nc ns N) : W p l e R s m args below meth c H locs nc ns Q (F0 m pc sl (st.map (a_V θ))) := by
  obtain ⟨⟨hx, hb, hml, hown, hts⟩, -⟩ := id hX
  obtain ⟨x, r, rfl, hn, rfl⟩ := stA_inl h0
  exact lv_astore hx hb (a_dec1 hX.kN hd rfl) hF.1 hn (a_s1_map θ ls i (.ref x)) (fun sl' hl' => K θ H locs sl' a_ex_rf hI ⟨hl', a_s1_ok hF.2.1 (a_hd hF.2.2), a_tl hF.2.2⟩)
theorem s_astoren (hX : a_X adK adV b sc D cA A p l R s m args meth c d k) (hI : a_I D cA adK b A s H locs θ w) (hF : a_F θ w (mX k) sl ls st) {i : Fin 4} (hd : mLk k pc = some (.astore_n i, len)) (h0 : ins sc d k pc ls st w (.astore_n i) = some N) (hr : nc + N.2.2.2.2.1 ≤ R.cells ∧ ns + N.2.2.2.2.2 ≤ R.slots) (K : a_Go adK b D cA A p l e R s m args below meth c Q k θ w nc ns N) : W p l e R s m args below meth c H locs nc ns Q (F0 m pc sl (st.map (a_V θ))) := by
  obtain ⟨⟨hx, hb, hml, hown, hts⟩, -⟩ := id hX
  obtain ⟨x, r, rfl, hn, rfl⟩ := stA_inl h0
  exact lv_astore_n hx hb (a_dec1 hX.kN hd rfl) rfl hF.1 hn (a_s1_map θ ls (i : Nat) (.ref x)) (fun sl' hl' => K θ H locs sl' a_ex_rf hI ⟨hl', a_s1_ok hF.2.1 (a_hd hF.2.2), a_tl hF.2.2⟩)
theorem inc_inl {n i : Nat} {z : Int} (h : a_inc n i z pc ls st w = some N) : ∃ x : Int32, a_lk ls i = some (.int x) ∧ i < n ∧ N = (pc + 3, a_s1 ls i (.int (x + Int32.ofInt z)), st, w, 0, 0) := by
  unfold a_inc at h
  split at h
  · rename_i x hx
    split at h
    · rename_i h1
      exact ⟨x, hx, h1, nx_inl h⟩
    · cases h
  · cases h
theorem s_iinc (hX : a_X adK adV b sc D cA A p l R s m args meth c d k) (hI : a_I D cA adK b A s H locs θ w) (hF : a_F θ w (mX k) sl ls st) {i : Nat} {z : Int} (hd : mLk k pc = some (.iinc i z, len)) (h0 : ins sc d k pc ls st w (.iinc i z) = some N) (hr : nc + N.2.2.2.2.1 ≤ R.cells ∧ ns + N.2.2.2.2.2 ≤ R.slots) (K : a_Go adK b D cA A p l e R s m args below meth c Q k θ w nc ns N) : W p l e R s m args below meth c H locs nc ns Q (F0 m pc sl (st.map (a_V θ))) := by
  obtain ⟨⟨hx, hb, hml, hown, hts⟩, -⟩ := id hX
  obtain ⟨x, hv, hn, rfl⟩ := inc_inl h0
  obtain ⟨j, hj⟩ := List.getElem?_of_mem (List.mem_map.mpr ⟨(i, Value.int x), a_lk_mem hv, rfl⟩ : (i, Value.int x) ∈ ls.map fun q => (q.1, a_V θ q.2))
  exact lv_iinc (k := j) hx hb (a_dec1 hX.kN hd rfl) hF.1 hj rfl hn (a_s1_map θ ls _ (.int _)) (fun sl' hl' => K θ H locs sl' a_ex_rf hI ⟨hl', a_s1_ok hF.2.1 (a_rk_int _), hF.2.2⟩)
theorem s_iadd (hX : a_X adK adV b sc D cA A p l R s m args meth c d k) (hI : a_I D cA adK b A s H locs θ w) (hF : a_F θ w (mX k) sl ls st) (hd : mLk k pc = some (.iadd, len)) (h0 : ins sc d k pc ls st w (.iadd) = some N) (hr : nc + N.2.2.2.2.1 ≤ R.cells ∧ ns + N.2.2.2.2.2 ≤ R.slots) (K : a_Go adK b D cA A p l e R s m args below meth c Q k θ w nc ns N) : W p l e R s m args below meth c H locs nc ns Q (F0 m pc sl (st.map (a_V θ))) := by
  obtain ⟨⟨hx, hb, hml, hown, hts⟩, -⟩ := id hX
  obtain ⟨x, y, r, rfl, rfl⟩ := i2_inl h0
  exact lv_iadd hx hb (a_dec1 hX.kN hd rfl) (K θ H locs sl a_ex_rf hI (hF.st (a_kc (a_rk_int _) (a_tl (a_tl hF.2.2)))))
theorem s_isub (hX : a_X adK adV b sc D cA A p l R s m args meth c d k) (hI : a_I D cA adK b A s H locs θ w) (hF : a_F θ w (mX k) sl ls st) (hd : mLk k pc = some (.isub, len)) (h0 : ins sc d k pc ls st w (.isub) = some N) (hr : nc + N.2.2.2.2.1 ≤ R.cells ∧ ns + N.2.2.2.2.2 ≤ R.slots) (K : a_Go adK b D cA A p l e R s m args below meth c Q k θ w nc ns N) : W p l e R s m args below meth c H locs nc ns Q (F0 m pc sl (st.map (a_V θ))) := by
  obtain ⟨⟨hx, hb, hml, hown, hts⟩, -⟩ := id hX
  obtain ⟨x, y, r, rfl, rfl⟩ := i2_inl h0
  exact lv_isub hx hb (a_dec1 hX.kN hd rfl) (K θ H locs sl a_ex_rf hI (hF.st (a_kc (a_rk_int _) (a_tl (a_tl hF.2.2)))))
theorem s_imul (hX : a_X adK adV b sc D cA A p l R s m args meth c d k) (hI : a_I D cA adK b A s H locs θ w) (hF : a_F θ w (mX k) sl ls st) (hd : mLk k pc = some (.imul, len)) (h0 : ins sc d k pc ls st w (.imul) = some N) (hr : nc + N.2.2.2.2.1 ≤ R.cells ∧ ns + N.2.2.2.2.2 ≤ R.slots) (K : a_Go adK b D cA A p l e R s m args below meth c Q k θ w nc ns N) : W p l e R s m args below meth c H locs nc ns Q (F0 m pc sl (st.map (a_V θ))) := by
  obtain ⟨⟨hx, hb, hml, hown, hts⟩, -⟩ := id hX
  obtain ⟨x, y, r, rfl, rfl⟩ := i2_inl h0
  exact lv_imul hx hb (a_dec1 hX.kN hd rfl) (K θ H locs sl a_ex_rf hI (hF.st (a_kc (a_rk_int _) (a_tl (a_tl hF.2.2)))))
theorem s_iand (hX : a_X adK adV b sc D cA A p l R s m args meth c d k) (hI : a_I D cA adK b A s H locs θ w) (hF : a_F θ w (mX k) sl ls st) (hd : mLk k pc = some (.iand, len)) (h0 : ins sc d k pc ls st w (.iand) = some N) (hr : nc + N.2.2.2.2.1 ≤ R.cells ∧ ns + N.2.2.2.2.2 ≤ R.slots) (K : a_Go adK b D cA A p l e R s m args below meth c Q k θ w nc ns N) : W p l e R s m args below meth c H locs nc ns Q (F0 m pc sl (st.map (a_V θ))) := by
  obtain ⟨⟨hx, hb, hml, hown, hts⟩, -⟩ := id hX
  obtain ⟨x, y, r, rfl, rfl⟩ := i2_inl h0
  exact lv_iand hx hb (a_dec1 hX.kN hd rfl) (K θ H locs sl a_ex_rf hI (hF.st (a_kc (a_rk_int _) (a_tl (a_tl hF.2.2)))))
theorem s_ior (hX : a_X adK adV b sc D cA A p l R s m args meth c d k) (hI : a_I D cA adK b A s H locs θ w) (hF : a_F θ w (mX k) sl ls st) (hd : mLk k pc = some (.ior, len)) (h0 : ins sc d k pc ls st w (.ior) = some N) (hr : nc + N.2.2.2.2.1 ≤ R.cells ∧ ns + N.2.2.2.2.2 ≤ R.slots) (K : a_Go adK b D cA A p l e R s m args below meth c Q k θ w nc ns N) : W p l e R s m args below meth c H locs nc ns Q (F0 m pc sl (st.map (a_V θ))) := by
  obtain ⟨⟨hx, hb, hml, hown, hts⟩, -⟩ := id hX
  obtain ⟨x, y, r, rfl, rfl⟩ := i2_inl h0
  exact lv_ior hx hb (a_dec1 hX.kN hd rfl) (K θ H locs sl a_ex_rf hI (hF.st (a_kc (a_rk_int _) (a_tl (a_tl hF.2.2)))))
theorem s_ixor (hX : a_X adK adV b sc D cA A p l R s m args meth c d k) (hI : a_I D cA adK b A s H locs θ w) (hF : a_F θ w (mX k) sl ls st) (hd : mLk k pc = some (.ixor, len)) (h0 : ins sc d k pc ls st w (.ixor) = some N) (hr : nc + N.2.2.2.2.1 ≤ R.cells ∧ ns + N.2.2.2.2.2 ≤ R.slots) (K : a_Go adK b D cA A p l e R s m args below meth c Q k θ w nc ns N) : W p l e R s m args below meth c H locs nc ns Q (F0 m pc sl (st.map (a_V θ))) := by
  obtain ⟨⟨hx, hb, hml, hown, hts⟩, -⟩ := id hX
  obtain ⟨x, y, r, rfl, rfl⟩ := i2_inl h0
  exact lv_ixor hx hb (a_dec1 hX.kN hd rfl) (K θ H locs sl a_ex_rf hI (hF.st (a_kc (a_rk_int _) (a_tl (a_tl hF.2.2)))))
theorem s_ishl (hX : a_X adK adV b sc D cA A p l R s m args meth c d k) (hI : a_I D cA adK b A s H locs θ w) (hF : a_F θ w (mX k) sl ls st) (hd : mLk k pc = some (.ishl, len)) (h0 : ins sc d k pc ls st w (.ishl) = some N) (hr : nc + N.2.2.2.2.1 ≤ R.cells ∧ ns + N.2.2.2.2.2 ≤ R.slots) (K : a_Go adK b D cA A p l e R s m args below meth c Q k θ w nc ns N) : W p l e R s m args below meth c H locs nc ns Q (F0 m pc sl (st.map (a_V θ))) := by
  obtain ⟨⟨hx, hb, hml, hown, hts⟩, -⟩ := id hX
  obtain ⟨x, y, r, rfl, rfl⟩ := i2_inl h0
  exact lv_ishl hx hb (a_dec1 hX.kN hd rfl) (K θ H locs sl a_ex_rf hI (hF.st (a_kc (a_rk_int _) (a_tl (a_tl hF.2.2)))))
theorem s_ishr (hX : a_X adK adV b sc D cA A p l R s m args meth c d k) (hI : a_I D cA adK b A s H locs θ w) (hF : a_F θ w (mX k) sl ls st) (hd : mLk k pc = some (.ishr, len)) (h0 : ins sc d k pc ls st w (.ishr) = some N) (hr : nc + N.2.2.2.2.1 ≤ R.cells ∧ ns + N.2.2.2.2.2 ≤ R.slots) (K : a_Go adK b D cA A p l e R s m args below meth c Q k θ w nc ns N) : W p l e R s m args below meth c H locs nc ns Q (F0 m pc sl (st.map (a_V θ))) := by
  obtain ⟨⟨hx, hb, hml, hown, hts⟩, -⟩ := id hX
  obtain ⟨x, y, r, rfl, rfl⟩ := i2_inl h0
  exact lv_ishr hx hb (a_dec1 hX.kN hd rfl) (K θ H locs sl a_ex_rf hI (hF.st (a_kc (a_rk_int _) (a_tl (a_tl hF.2.2)))))
theorem s_iushr (hX : a_X adK adV b sc D cA A p l R s m args meth c d k) (hI : a_I D cA adK b A s H locs θ w) (hF : a_F θ w (mX k) sl ls st) (hd : mLk k pc = some (.iushr, len)) (h0 : ins sc d k pc ls st w (.iushr) = some N) (hr : nc + N.2.2.2.2.1 ≤ R.cells ∧ ns + N.2.2.2.2.2 ≤ R.slots) (K : a_Go adK b D cA A p l e R s m args below meth c Q k θ w nc ns N) : W p l e R s m args below meth c H locs nc ns Q (F0 m pc sl (st.map (a_V θ))) := by
  obtain ⟨⟨hx, hb, hml, hown, hts⟩, -⟩ := id hX
  obtain ⟨x, y, r, rfl, rfl⟩ := i2_inl h0
  exact lv_iushr hx hb (a_dec1 hX.kN hd rfl) rfl (K θ H locs sl a_ex_rf hI (hF.st (a_kc (a_rk_int _) (a_tl (a_tl hF.2.2)))))
theorem s_idiv (hX : a_X adK adV b sc D cA A p l R s m args meth c d k) (hI : a_I D cA adK b A s H locs θ w) (hF : a_F θ w (mX k) sl ls st) (hd : mLk k pc = some (.idiv, len)) (h0 : ins sc d k pc ls st w (.idiv) = some N) (hr : nc + N.2.2.2.2.1 ≤ R.cells ∧ ns + N.2.2.2.2.2 ≤ R.slots) (K : a_Go adK b D cA A p l e R s m args below meth c Q k θ w nc ns N) : W p l e R s m args below meth c H locs nc ns Q (F0 m pc sl (st.map (a_V θ))) := by
  obtain ⟨⟨hx, hb, hml, hown, hts⟩, -⟩ := id hX
  obtain ⟨x, y, r, rfl, hz, rfl⟩ := i2z_inl h0
  exact lv_idiv hx hb (a_dec1 hX.kN hd rfl) hz (K θ H locs sl a_ex_rf hI (hF.st (a_kc (a_rk_int _) (a_tl (a_tl hF.2.2)))))
theorem s_irem (hX : a_X adK adV b sc D cA A p l R s m args meth c d k) (hI : a_I D cA adK b A s H locs θ w) (hF : a_F θ w (mX k) sl ls st) (hd : mLk k pc = some (.irem, len)) (h0 : ins sc d k pc ls st w (.irem) = some N) (hr : nc + N.2.2.2.2.1 ≤ R.cells ∧ ns + N.2.2.2.2.2 ≤ R.slots) (K : a_Go adK b D cA A p l e R s m args below meth c Q k θ w nc ns N) : W p l e R s m args below meth c H locs nc ns Q (F0 m pc sl (st.map (a_V θ))) := by
  obtain ⟨⟨hx, hb, hml, hown, hts⟩, -⟩ := id hX
  obtain ⟨x, y, r, rfl, hz, rfl⟩ := i2z_inl h0
  exact lv_irem hx hb (a_dec1 hX.kN hd rfl) hz (K θ H locs sl a_ex_rf hI (hF.st (a_kc (a_rk_int _) (a_tl (a_tl hF.2.2)))))
theorem s_ineg (hX : a_X adK adV b sc D cA A p l R s m args meth c d k) (hI : a_I D cA adK b A s H locs θ w) (hF : a_F θ w (mX k) sl ls st) (hd : mLk k pc = some (.ineg, len)) (h0 : ins sc d k pc ls st w (.ineg) = some N) (hr : nc + N.2.2.2.2.1 ≤ R.cells ∧ ns + N.2.2.2.2.2 ≤ R.slots) (K : a_Go adK b D cA A p l e R s m args below meth c Q k θ w nc ns N) : W p l e R s m args below meth c H locs nc ns Q (F0 m pc sl (st.map (a_V θ))) := by
  obtain ⟨⟨hx, hb, hml, hown, hts⟩, -⟩ := id hX
  obtain ⟨x, r, rfl, rfl⟩ := i1_inl h0
  exact lv_ineg hx hb (a_dec1 hX.kN hd rfl) (K θ H locs sl a_ex_rf hI (hF.st (a_kc (a_rk_int _) (a_tl hF.2.2))))
theorem s_i2b (hX : a_X adK adV b sc D cA A p l R s m args meth c d k) (hI : a_I D cA adK b A s H locs θ w) (hF : a_F θ w (mX k) sl ls st) (hd : mLk k pc = some (.i2b, len)) (h0 : ins sc d k pc ls st w (.i2b) = some N) (hr : nc + N.2.2.2.2.1 ≤ R.cells ∧ ns + N.2.2.2.2.2 ≤ R.slots) (K : a_Go adK b D cA A p l e R s m args below meth c Q k θ w nc ns N) : W p l e R s m args below meth c H locs nc ns Q (F0 m pc sl (st.map (a_V θ))) := by
  obtain ⟨⟨hx, hb, hml, hown, hts⟩, -⟩ := id hX
  obtain ⟨x, r, rfl, rfl⟩ := i1_inl h0
  exact lv_i2b hx hb (a_dec1 hX.kN hd rfl) rfl (K θ H locs sl a_ex_rf hI (hF.st (a_kc (a_rk_int _) (a_tl hF.2.2))))
theorem s_ladd (hX : a_X adK adV b sc D cA A p l R s m args meth c d k) (hI : a_I D cA adK b A s H locs θ w) (hF : a_F θ w (mX k) sl ls st) (hd : mLk k pc = some (.ladd, len)) (h0 : ins sc d k pc ls st w (.ladd) = some N) (hr : nc + N.2.2.2.2.1 ≤ R.cells ∧ ns + N.2.2.2.2.2 ≤ R.slots) (K : a_Go adK b D cA A p l e R s m args below meth c Q k θ w nc ns N) : W p l e R s m args below meth c H locs nc ns Q (F0 m pc sl (st.map (a_V θ))) := by
  obtain ⟨⟨hx, hb, hml, hown, hts⟩, -⟩ := id hX
  obtain ⟨x, y, r, rfl, rfl⟩ := l2_inl h0
  exact lv_ladd hx hb (a_dec1 hX.kN hd rfl) (K θ H locs sl a_ex_rf hI (hF.st (a_kc (a_rk_long _) (a_tl (a_tl hF.2.2)))))
theorem s_lmul (hX : a_X adK adV b sc D cA A p l R s m args meth c d k) (hI : a_I D cA adK b A s H locs θ w) (hF : a_F θ w (mX k) sl ls st) (hd : mLk k pc = some (.lmul, len)) (h0 : ins sc d k pc ls st w (.lmul) = some N) (hr : nc + N.2.2.2.2.1 ≤ R.cells ∧ ns + N.2.2.2.2.2 ≤ R.slots) (K : a_Go adK b D cA A p l e R s m args below meth c Q k θ w nc ns N) : W p l e R s m args below meth c H locs nc ns Q (F0 m pc sl (st.map (a_V θ))) := by
  obtain ⟨⟨hx, hb, hml, hown, hts⟩, -⟩ := id hX
  obtain ⟨x, y, r, rfl, rfl⟩ := l2_inl h0
  exact lv_lmul hx hb (a_dec1 hX.kN hd rfl) (K θ H locs sl a_ex_rf hI (hF.st (a_kc (a_rk_long _) (a_tl (a_tl hF.2.2)))))
theorem s_ldiv (hX : a_X adK adV b sc D cA A p l R s m args meth c d k) (hI : a_I D cA adK b A s H locs θ w) (hF : a_F θ w (mX k) sl ls st) (hd : mLk k pc = some (.ldiv, len)) (h0 : ins sc d k pc ls st w (.ldiv) = some N) (hr : nc + N.2.2.2.2.1 ≤ R.cells ∧ ns + N.2.2.2.2.2 ≤ R.slots) (K : a_Go adK b D cA A p l e R s m args below meth c Q k θ w nc ns N) : W p l e R s m args below meth c H locs nc ns Q (F0 m pc sl (st.map (a_V θ))) := by
  obtain ⟨⟨hx, hb, hml, hown, hts⟩, -⟩ := id hX
  obtain ⟨x, y, r, rfl, hz, rfl⟩ := l2z_inl h0
  exact lv_ldiv hx hb (a_dec1 hX.kN hd rfl) hz (K θ H locs sl a_ex_rf hI (hF.st (a_kc (a_rk_long _) (a_tl (a_tl hF.2.2)))))
theorem s_lrem (hX : a_X adK adV b sc D cA A p l R s m args meth c d k) (hI : a_I D cA adK b A s H locs θ w) (hF : a_F θ w (mX k) sl ls st) (hd : mLk k pc = some (.lrem, len)) (h0 : ins sc d k pc ls st w (.lrem) = some N) (hr : nc + N.2.2.2.2.1 ≤ R.cells ∧ ns + N.2.2.2.2.2 ≤ R.slots) (K : a_Go adK b D cA A p l e R s m args below meth c Q k θ w nc ns N) : W p l e R s m args below meth c H locs nc ns Q (F0 m pc sl (st.map (a_V θ))) := by
  obtain ⟨⟨hx, hb, hml, hown, hts⟩, -⟩ := id hX
  obtain ⟨x, y, r, rfl, hz, rfl⟩ := l2z_inl h0
  exact lv_lrem hx hb (a_dec1 hX.kN hd rfl) hz (K θ H locs sl a_ex_rf hI (hF.st (a_kc (a_rk_long _) (a_tl (a_tl hF.2.2)))))
theorem lcmp_inl (h : a_lcmp pc ls st w = some N) : ∃ (x y : Int64) (r : List Value), st = .long y :: .long x :: r ∧ N = (pc + 1, ls, .int (lg_cmp x y) :: r, w, 0, 0) := by
  unfold a_lcmp at h
  split at h
  · exact ⟨_, _, _, rfl, nx_inl h⟩
  · cases h
theorem i2l_inl (h : a_i2l pc ls st w = some N) : ∃ (x : Int32) (r : List Value), st = .int x :: r ∧ N = (pc + 1, ls, .long x.toInt64 :: r, w, 0, 0) := by
  unfold a_i2l at h
  split at h
  · exact ⟨_, _, rfl, nx_inl h⟩
  · cases h
theorem s_lcmp (hX : a_X adK adV b sc D cA A p l R s m args meth c d k) (hI : a_I D cA adK b A s H locs θ w) (hF : a_F θ w (mX k) sl ls st) (hd : mLk k pc = some (.lcmp, len)) (h0 : ins sc d k pc ls st w (.lcmp) = some N) (hr : nc + N.2.2.2.2.1 ≤ R.cells ∧ ns + N.2.2.2.2.2 ≤ R.slots) (K : a_Go adK b D cA A p l e R s m args below meth c Q k θ w nc ns N) : W p l e R s m args below meth c H locs nc ns Q (F0 m pc sl (st.map (a_V θ))) := by
  obtain ⟨⟨hx, hb, hml, hown, hts⟩, -⟩ := id hX
  obtain ⟨x, y, r, rfl, rfl⟩ := lcmp_inl h0
  exact W.lcmp hx hb (a_dec1 hX.kN hd rfl) (K θ H locs sl a_ex_rf hI (hF.st (a_kc (a_rk_int _) (a_tl (a_tl hF.2.2)))))
theorem s_i2l (hX : a_X adK adV b sc D cA A p l R s m args meth c d k) (hI : a_I D cA adK b A s H locs θ w) (hF : a_F θ w (mX k) sl ls st) (hd : mLk k pc = some (.i2l, len)) (h0 : ins sc d k pc ls st w (.i2l) = some N) (hr : nc + N.2.2.2.2.1 ≤ R.cells ∧ ns + N.2.2.2.2.2 ≤ R.slots) (K : a_Go adK b D cA A p l e R s m args below meth c Q k θ w nc ns N) : W p l e R s m args below meth c H locs nc ns Q (F0 m pc sl (st.map (a_V θ))) := by
  obtain ⟨⟨hx, hb, hml, hown, hts⟩, -⟩ := id hX
  obtain ⟨x, r, rfl, rfl⟩ := i2l_inl h0
  exact lv_i2l hx hb (a_dec1 hX.kN hd rfl) rfl (K θ H locs sl a_ex_rf hI (hF.st (a_kc (a_rk_long _) (a_tl hF.2.2))))
theorem dup_inl (h : a_dup pc ls st w = some N) : ∃ (v : Value) (r : List Value), st = v :: r ∧ v.category = 1 ∧ N = (pc + 1, ls, v :: v :: r, w, 0, 0) := by
  unfold a_dup at h
  split at h
  · split at h
    · rename_i h1
      exact ⟨_, _, rfl, h1, nx_inl h⟩
    · cases h
  · cases h
theorem pop_inl (h : a_pop pc ls st w = some N) : ∃ (v : Value) (r : List Value), st = v :: r ∧ v.category = 1 ∧ N = (pc + 1, ls, r, w, 0, 0) := by
  unfold a_pop at h
  split at h
  · split at h
    · rename_i h1
      exact ⟨_, _, rfl, h1, nx_inl h⟩
    · cases h
  · cases h
theorem dup2_inl (h : a_dup2 pc ls st w = some N) : ∃ (u v : Value) (r : List Value), st = u :: v :: r ∧ (u.category = 1 ∧ v.category = 1) ∧ N = (pc + 1, ls, u :: v :: u :: v :: r, w, 0, 0) := by
  unfold a_dup2 at h
  split at h
  · split at h
    · rename_i h1
      exact ⟨_, _, _, rfl, h1, nx_inl h⟩
    · cases h
  · cases h
theorem s_dup (hX : a_X adK adV b sc D cA A p l R s m args meth c d k) (hI : a_I D cA adK b A s H locs θ w) (hF : a_F θ w (mX k) sl ls st) (hd : mLk k pc = some (.dup, len)) (h0 : ins sc d k pc ls st w (.dup) = some N) (hr : nc + N.2.2.2.2.1 ≤ R.cells ∧ ns + N.2.2.2.2.2 ≤ R.slots) (K : a_Go adK b D cA A p l e R s m args below meth c Q k θ w nc ns N) : W p l e R s m args below meth c H locs nc ns Q (F0 m pc sl (st.map (a_V θ))) := by
  obtain ⟨⟨hx, hb, hml, hown, hts⟩, -⟩ := id hX
  obtain ⟨v, r, rfl, hc, rfl⟩ := dup_inl h0
  exact lv_dup hx hb (a_dec1 hX.kN hd rfl) (by rw [a_V_cat]; exact hc) (K θ H locs sl a_ex_rf hI (hF.st (a_kc (a_hd hF.2.2) hF.2.2)))
theorem s_pop (hX : a_X adK adV b sc D cA A p l R s m args meth c d k) (hI : a_I D cA adK b A s H locs θ w) (hF : a_F θ w (mX k) sl ls st) (hd : mLk k pc = some (.pop, len)) (h0 : ins sc d k pc ls st w (.pop) = some N) (hr : nc + N.2.2.2.2.1 ≤ R.cells ∧ ns + N.2.2.2.2.2 ≤ R.slots) (K : a_Go adK b D cA A p l e R s m args below meth c Q k θ w nc ns N) : W p l e R s m args below meth c H locs nc ns Q (F0 m pc sl (st.map (a_V θ))) := by
  obtain ⟨⟨hx, hb, hml, hown, hts⟩, -⟩ := id hX
  obtain ⟨v, r, rfl, hc, rfl⟩ := pop_inl h0
  exact lv_pop hx hb (a_dec1 hX.kN hd rfl) (by rw [a_V_cat]; exact hc) (K θ H locs sl a_ex_rf hI (hF.st (a_tl hF.2.2)))
theorem s_dup2 (hX : a_X adK adV b sc D cA A p l R s m args meth c d k) (hI : a_I D cA adK b A s H locs θ w) (hF : a_F θ w (mX k) sl ls st) (hd : mLk k pc = some (.dup2, len)) (h0 : ins sc d k pc ls st w (.dup2) = some N) (hr : nc + N.2.2.2.2.1 ≤ R.cells ∧ ns + N.2.2.2.2.2 ≤ R.slots) (K : a_Go adK b D cA A p l e R s m args below meth c Q k θ w nc ns N) : W p l e R s m args below meth c H locs nc ns Q (F0 m pc sl (st.map (a_V θ))) := by
  obtain ⟨⟨hx, hb, hml, hown, hts⟩, -⟩ := id hX
  obtain ⟨u, v, r, rfl, hc, rfl⟩ := dup2_inl h0
  exact lv_dup2_11 hx hb (a_dec1 hX.kN hd rfl) (by rw [a_V_cat]; exact hc.1) (by rw [a_V_cat]; exact hc.2) (K θ H locs sl a_ex_rf hI (hF.st (a_kc (a_hd hF.2.2) (a_kc (a_hd (a_tl hF.2.2)) hF.2.2))))
theorem s_goto (hX : a_X adK adV b sc D cA A p l R s m args meth c d k) (hI : a_I D cA adK b A s H locs θ w) (hF : a_F θ w (mX k) sl ls st) {off : Int} (hd : mLk k pc = some (.goto off, len)) (h0 : ins sc d k pc ls st w (.goto off) = some N) (hr : nc + N.2.2.2.2.1 ≤ R.cells ∧ ns + N.2.2.2.2.2 ≤ R.slots) (K : a_Go adK b D cA A p l e R s m args below meth c Q k θ w nc ns N) : W p l e R s m args below meth c H locs nc ns Q (F0 m pc sl (st.map (a_V θ))) := by
  obtain ⟨⟨hx, hb, hml, hown, hts⟩, -⟩ := id hX
  obtain ⟨t, ht, rfl⟩ := to_inl h0
  exact lv_goto hx hb (a_dec1 hX.kN hd rfl) ht (K θ H locs sl a_ex_rf hI (hF.st (hF.2.2)))
theorem m1_inl {f : Int32 → List Value → Option AN} (h : (match st with | .int x :: r => f x r | _ => none) = some N) : ∃ (x : Int32) (r : List Value), st = .int x :: r ∧ f x r = some N := by
  split at h
  · exact ⟨_, _, rfl, h⟩
  · cases h
theorem m2_inl {f : Int32 → Int32 → List Value → Option AN} (h : (match st with | .int y :: .int x :: r => f x y r | _ => none) = some N) : ∃ (x y : Int32) (r : List Value), st = .int y :: .int x :: r ∧ f x y r = some N := by
  split at h
  · exact ⟨_, _, _, rfl, h⟩
  · cases h
theorem s_if_eq (hX : a_X adK adV b sc D cA A p l R s m args meth c d k) (hI : a_I D cA adK b A s H locs θ w) (hF : a_F θ w (mX k) sl ls st) {off : Int} (hd : mLk k pc = some (.ifCond .eq off, len)) (h0 : ins sc d k pc ls st w (.ifCond .eq off) = some N) (hr : nc + N.2.2.2.2.1 ≤ R.cells ∧ ns + N.2.2.2.2.2 ≤ R.slots) (K : a_Go adK b D cA A p l e R s m args below meth c Q k θ w nc ns N) : W p l e R s m args below meth c H locs nc ns Q (F0 m pc sl (st.map (a_V θ))) := by
  obtain ⟨⟨hx, hb, hml, hown, hts⟩, -⟩ := id hX
  obtain ⟨x, r, rfl, h1⟩ := m1_inl (f := fun x r => a_jmp (x = 0) pc off ls r w) h0
  obtain ⟨t, ht, ⟨hq, rfl⟩ | ⟨hq, rfl⟩⟩ := jmp_inl h1
  · exact lv_if_eq hx hb (a_dec1 hX.kN hd rfl) ht (fun _ => K θ H locs sl a_ex_rf hI (hF.st (a_tl hF.2.2))) (fun q => absurd hq q)
  · exact lv_if_eq hx hb (a_dec1 hX.kN hd rfl) ht (fun q => absurd q hq) (fun _ => K θ H locs sl a_ex_rf hI (hF.st (a_tl hF.2.2)))
theorem s_ic_eq (hX : a_X adK adV b sc D cA A p l R s m args meth c d k) (hI : a_I D cA adK b A s H locs θ w) (hF : a_F θ w (mX k) sl ls st) {off : Int} (hd : mLk k pc = some (.if_icmp .eq off, len)) (h0 : ins sc d k pc ls st w (.if_icmp .eq off) = some N) (hr : nc + N.2.2.2.2.1 ≤ R.cells ∧ ns + N.2.2.2.2.2 ≤ R.slots) (K : a_Go adK b D cA A p l e R s m args below meth c Q k θ w nc ns N) : W p l e R s m args below meth c H locs nc ns Q (F0 m pc sl (st.map (a_V θ))) := by
  obtain ⟨⟨hx, hb, hml, hown, hts⟩, -⟩ := id hX
  obtain ⟨x, y, r, rfl, h1⟩ := m2_inl (f := fun x y r => a_jmp (x = y) pc off ls r w) h0
  obtain ⟨t, ht, ⟨hq, rfl⟩ | ⟨hq, rfl⟩⟩ := jmp_inl h1
  · exact lv_icmp_eq hx hb (a_dec1 hX.kN hd rfl) ht (fun _ => K θ H locs sl a_ex_rf hI (hF.st (a_tl (a_tl hF.2.2)))) (fun q => absurd hq q)
  · exact lv_icmp_eq hx hb (a_dec1 hX.kN hd rfl) ht (fun q => absurd q hq) (fun _ => K θ H locs sl a_ex_rf hI (hF.st (a_tl (a_tl hF.2.2))))
theorem s_if_ne (hX : a_X adK adV b sc D cA A p l R s m args meth c d k) (hI : a_I D cA adK b A s H locs θ w) (hF : a_F θ w (mX k) sl ls st) {off : Int} (hd : mLk k pc = some (.ifCond .ne off, len)) (h0 : ins sc d k pc ls st w (.ifCond .ne off) = some N) (hr : nc + N.2.2.2.2.1 ≤ R.cells ∧ ns + N.2.2.2.2.2 ≤ R.slots) (K : a_Go adK b D cA A p l e R s m args below meth c Q k θ w nc ns N) : W p l e R s m args below meth c H locs nc ns Q (F0 m pc sl (st.map (a_V θ))) := by
  obtain ⟨⟨hx, hb, hml, hown, hts⟩, -⟩ := id hX
  obtain ⟨x, r, rfl, h1⟩ := m1_inl (f := fun x r => a_jmp (¬ x = 0) pc off ls r w) h0
  obtain ⟨t, ht, ⟨hq, rfl⟩ | ⟨hq, rfl⟩⟩ := jmp_inl h1
  · exact lv_if_ne hx hb (a_dec1 hX.kN hd rfl) ht (fun _ => K θ H locs sl a_ex_rf hI (hF.st (a_tl hF.2.2))) (fun q => absurd q hq)
  · exact lv_if_ne hx hb (a_dec1 hX.kN hd rfl) ht (fun q => absurd q hq) (fun _ => K θ H locs sl a_ex_rf hI (hF.st (a_tl hF.2.2)))
theorem s_ic_ne (hX : a_X adK adV b sc D cA A p l R s m args meth c d k) (hI : a_I D cA adK b A s H locs θ w) (hF : a_F θ w (mX k) sl ls st) {off : Int} (hd : mLk k pc = some (.if_icmp .ne off, len)) (h0 : ins sc d k pc ls st w (.if_icmp .ne off) = some N) (hr : nc + N.2.2.2.2.1 ≤ R.cells ∧ ns + N.2.2.2.2.2 ≤ R.slots) (K : a_Go adK b D cA A p l e R s m args below meth c Q k θ w nc ns N) : W p l e R s m args below meth c H locs nc ns Q (F0 m pc sl (st.map (a_V θ))) := by
  obtain ⟨⟨hx, hb, hml, hown, hts⟩, -⟩ := id hX
  obtain ⟨x, y, r, rfl, h1⟩ := m2_inl (f := fun x y r => a_jmp (¬ x = y) pc off ls r w) h0
  obtain ⟨t, ht, ⟨hq, rfl⟩ | ⟨hq, rfl⟩⟩ := jmp_inl h1
  · exact lv_icmp_ne hx hb (a_dec1 hX.kN hd rfl) ht (fun _ => K θ H locs sl a_ex_rf hI (hF.st (a_tl (a_tl hF.2.2)))) (fun q => absurd q hq)
  · exact lv_icmp_ne hx hb (a_dec1 hX.kN hd rfl) ht (fun q => absurd q hq) (fun _ => K θ H locs sl a_ex_rf hI (hF.st (a_tl (a_tl hF.2.2))))
theorem s_if_lt (hX : a_X adK adV b sc D cA A p l R s m args meth c d k) (hI : a_I D cA adK b A s H locs θ w) (hF : a_F θ w (mX k) sl ls st) {off : Int} (hd : mLk k pc = some (.ifCond .lt off, len)) (h0 : ins sc d k pc ls st w (.ifCond .lt off) = some N) (hr : nc + N.2.2.2.2.1 ≤ R.cells ∧ ns + N.2.2.2.2.2 ≤ R.slots) (K : a_Go adK b D cA A p l e R s m args below meth c Q k θ w nc ns N) : W p l e R s m args below meth c H locs nc ns Q (F0 m pc sl (st.map (a_V θ))) := by
  obtain ⟨⟨hx, hb, hml, hown, hts⟩, -⟩ := id hX
  obtain ⟨x, r, rfl, h1⟩ := m1_inl (f := fun x r => a_jmp (x < 0) pc off ls r w) h0
  obtain ⟨t, ht, ⟨hq, rfl⟩ | ⟨hq, rfl⟩⟩ := jmp_inl h1
  · exact lv_if_lt hx hb (a_dec1 hX.kN hd rfl) ht (fun _ => K θ H locs sl a_ex_rf hI (hF.st (a_tl hF.2.2))) (fun q => absurd hq q)
  · exact lv_if_lt hx hb (a_dec1 hX.kN hd rfl) ht (fun q => absurd q hq) (fun _ => K θ H locs sl a_ex_rf hI (hF.st (a_tl hF.2.2)))
theorem s_ic_lt (hX : a_X adK adV b sc D cA A p l R s m args meth c d k) (hI : a_I D cA adK b A s H locs θ w) (hF : a_F θ w (mX k) sl ls st) {off : Int} (hd : mLk k pc = some (.if_icmp .lt off, len)) (h0 : ins sc d k pc ls st w (.if_icmp .lt off) = some N) (hr : nc + N.2.2.2.2.1 ≤ R.cells ∧ ns + N.2.2.2.2.2 ≤ R.slots) (K : a_Go adK b D cA A p l e R s m args below meth c Q k θ w nc ns N) : W p l e R s m args below meth c H locs nc ns Q (F0 m pc sl (st.map (a_V θ))) := by
  obtain ⟨⟨hx, hb, hml, hown, hts⟩, -⟩ := id hX
  obtain ⟨x, y, r, rfl, h1⟩ := m2_inl (f := fun x y r => a_jmp (x < y) pc off ls r w) h0
  obtain ⟨t, ht, ⟨hq, rfl⟩ | ⟨hq, rfl⟩⟩ := jmp_inl h1
  · exact lv_icmp_lt hx hb (a_dec1 hX.kN hd rfl) ht (fun _ => K θ H locs sl a_ex_rf hI (hF.st (a_tl (a_tl hF.2.2)))) (fun q => absurd hq q)
  · exact lv_icmp_lt hx hb (a_dec1 hX.kN hd rfl) ht (fun q => absurd q hq) (fun _ => K θ H locs sl a_ex_rf hI (hF.st (a_tl (a_tl hF.2.2))))
theorem s_if_ge (hX : a_X adK adV b sc D cA A p l R s m args meth c d k) (hI : a_I D cA adK b A s H locs θ w) (hF : a_F θ w (mX k) sl ls st) {off : Int} (hd : mLk k pc = some (.ifCond .ge off, len)) (h0 : ins sc d k pc ls st w (.ifCond .ge off) = some N) (hr : nc + N.2.2.2.2.1 ≤ R.cells ∧ ns + N.2.2.2.2.2 ≤ R.slots) (K : a_Go adK b D cA A p l e R s m args below meth c Q k θ w nc ns N) : W p l e R s m args below meth c H locs nc ns Q (F0 m pc sl (st.map (a_V θ))) := by
  obtain ⟨⟨hx, hb, hml, hown, hts⟩, -⟩ := id hX
  obtain ⟨x, r, rfl, h1⟩ := m1_inl (f := fun x r => a_jmp (0 ≤ x) pc off ls r w) h0
  obtain ⟨t, ht, ⟨hq, rfl⟩ | ⟨hq, rfl⟩⟩ := jmp_inl h1
  · exact lv_if_ge hx hb (a_dec1 hX.kN hd rfl) ht (fun _ => K θ H locs sl a_ex_rf hI (hF.st (a_tl hF.2.2))) (fun q => absurd hq q)
  · exact lv_if_ge hx hb (a_dec1 hX.kN hd rfl) ht (fun q => absurd q hq) (fun _ => K θ H locs sl a_ex_rf hI (hF.st (a_tl hF.2.2)))
theorem s_ic_ge (hX : a_X adK adV b sc D cA A p l R s m args meth c d k) (hI : a_I D cA adK b A s H locs θ w) (hF : a_F θ w (mX k) sl ls st) {off : Int} (hd : mLk k pc = some (.if_icmp .ge off, len)) (h0 : ins sc d k pc ls st w (.if_icmp .ge off) = some N) (hr : nc + N.2.2.2.2.1 ≤ R.cells ∧ ns + N.2.2.2.2.2 ≤ R.slots) (K : a_Go adK b D cA A p l e R s m args below meth c Q k θ w nc ns N) : W p l e R s m args below meth c H locs nc ns Q (F0 m pc sl (st.map (a_V θ))) := by
  obtain ⟨⟨hx, hb, hml, hown, hts⟩, -⟩ := id hX
  obtain ⟨x, y, r, rfl, h1⟩ := m2_inl (f := fun x y r => a_jmp (y ≤ x) pc off ls r w) h0
  obtain ⟨t, ht, ⟨hq, rfl⟩ | ⟨hq, rfl⟩⟩ := jmp_inl h1
  · exact lv_icmp_ge hx hb (a_dec1 hX.kN hd rfl) ht (fun _ => K θ H locs sl a_ex_rf hI (hF.st (a_tl (a_tl hF.2.2)))) (fun q => absurd hq q)
  · exact lv_icmp_ge hx hb (a_dec1 hX.kN hd rfl) ht (fun q => absurd q hq) (fun _ => K θ H locs sl a_ex_rf hI (hF.st (a_tl (a_tl hF.2.2))))
theorem s_if_gt (hX : a_X adK adV b sc D cA A p l R s m args meth c d k) (hI : a_I D cA adK b A s H locs θ w) (hF : a_F θ w (mX k) sl ls st) {off : Int} (hd : mLk k pc = some (.ifCond .gt off, len)) (h0 : ins sc d k pc ls st w (.ifCond .gt off) = some N) (hr : nc + N.2.2.2.2.1 ≤ R.cells ∧ ns + N.2.2.2.2.2 ≤ R.slots) (K : a_Go adK b D cA A p l e R s m args below meth c Q k θ w nc ns N) : W p l e R s m args below meth c H locs nc ns Q (F0 m pc sl (st.map (a_V θ))) := by
  obtain ⟨⟨hx, hb, hml, hown, hts⟩, -⟩ := id hX
  obtain ⟨x, r, rfl, h1⟩ := m1_inl (f := fun x r => a_jmp (0 < x) pc off ls r w) h0
  obtain ⟨t, ht, ⟨hq, rfl⟩ | ⟨hq, rfl⟩⟩ := jmp_inl h1
  · exact lv_if_gt hx hb (a_dec1 hX.kN hd rfl) ht (fun _ => K θ H locs sl a_ex_rf hI (hF.st (a_tl hF.2.2))) (fun q => absurd hq q)
  · exact lv_if_gt hx hb (a_dec1 hX.kN hd rfl) ht (fun q => absurd q hq) (fun _ => K θ H locs sl a_ex_rf hI (hF.st (a_tl hF.2.2)))
theorem s_ic_gt (hX : a_X adK adV b sc D cA A p l R s m args meth c d k) (hI : a_I D cA adK b A s H locs θ w) (hF : a_F θ w (mX k) sl ls st) {off : Int} (hd : mLk k pc = some (.if_icmp .gt off, len)) (h0 : ins sc d k pc ls st w (.if_icmp .gt off) = some N) (hr : nc + N.2.2.2.2.1 ≤ R.cells ∧ ns + N.2.2.2.2.2 ≤ R.slots) (K : a_Go adK b D cA A p l e R s m args below meth c Q k θ w nc ns N) : W p l e R s m args below meth c H locs nc ns Q (F0 m pc sl (st.map (a_V θ))) := by
  obtain ⟨⟨hx, hb, hml, hown, hts⟩, -⟩ := id hX
  obtain ⟨x, y, r, rfl, h1⟩ := m2_inl (f := fun x y r => a_jmp (y < x) pc off ls r w) h0
  obtain ⟨t, ht, ⟨hq, rfl⟩ | ⟨hq, rfl⟩⟩ := jmp_inl h1
  · exact lv_icmp_gt hx hb (a_dec1 hX.kN hd rfl) ht (fun _ => K θ H locs sl a_ex_rf hI (hF.st (a_tl (a_tl hF.2.2)))) (fun q => absurd hq q)
  · exact lv_icmp_gt hx hb (a_dec1 hX.kN hd rfl) ht (fun q => absurd q hq) (fun _ => K θ H locs sl a_ex_rf hI (hF.st (a_tl (a_tl hF.2.2))))
theorem s_if_le (hX : a_X adK adV b sc D cA A p l R s m args meth c d k) (hI : a_I D cA adK b A s H locs θ w) (hF : a_F θ w (mX k) sl ls st) {off : Int} (hd : mLk k pc = some (.ifCond .le off, len)) (h0 : ins sc d k pc ls st w (.ifCond .le off) = some N) (hr : nc + N.2.2.2.2.1 ≤ R.cells ∧ ns + N.2.2.2.2.2 ≤ R.slots) (K : a_Go adK b D cA A p l e R s m args below meth c Q k θ w nc ns N) : W p l e R s m args below meth c H locs nc ns Q (F0 m pc sl (st.map (a_V θ))) := by
  obtain ⟨⟨hx, hb, hml, hown, hts⟩, -⟩ := id hX
  obtain ⟨x, r, rfl, h1⟩ := m1_inl (f := fun x r => a_jmp (x ≤ 0) pc off ls r w) h0
  obtain ⟨t, ht, ⟨hq, rfl⟩ | ⟨hq, rfl⟩⟩ := jmp_inl h1
  · exact lv_if_le hx hb (a_dec1 hX.kN hd rfl) ht (fun _ => K θ H locs sl a_ex_rf hI (hF.st (a_tl hF.2.2))) (fun q => absurd hq q)
  · exact lv_if_le hx hb (a_dec1 hX.kN hd rfl) ht (fun q => absurd q hq) (fun _ => K θ H locs sl a_ex_rf hI (hF.st (a_tl hF.2.2)))
theorem s_ic_le (hX : a_X adK adV b sc D cA A p l R s m args meth c d k) (hI : a_I D cA adK b A s H locs θ w) (hF : a_F θ w (mX k) sl ls st) {off : Int} (hd : mLk k pc = some (.if_icmp .le off, len)) (h0 : ins sc d k pc ls st w (.if_icmp .le off) = some N) (hr : nc + N.2.2.2.2.1 ≤ R.cells ∧ ns + N.2.2.2.2.2 ≤ R.slots) (K : a_Go adK b D cA A p l e R s m args below meth c Q k θ w nc ns N) : W p l e R s m args below meth c H locs nc ns Q (F0 m pc sl (st.map (a_V θ))) := by
  obtain ⟨⟨hx, hb, hml, hown, hts⟩, -⟩ := id hX
  obtain ⟨x, y, r, rfl, h1⟩ := m2_inl (f := fun x y r => a_jmp (x ≤ y) pc off ls r w) h0
  obtain ⟨t, ht, ⟨hq, rfl⟩ | ⟨hq, rfl⟩⟩ := jmp_inl h1
  · exact lv_icmp_le hx hb (a_dec1 hX.kN hd rfl) ht (fun _ => K θ H locs sl a_ex_rf hI (hF.st (a_tl (a_tl hF.2.2)))) (fun q => absurd hq q)
  · exact lv_icmp_le hx hb (a_dec1 hX.kN hd rfl) ht (fun q => absurd q hq) (fun _ => K θ H locs sl a_ex_rf hI (hF.st (a_tl (a_tl hF.2.2))))
theorem tsw_inl {dflt lo hi : Int} {offs : Array Int} (h : a_tsw dflt lo hi offs pc ls st w = some N) : ∃ (x : Int32) (r : List Value), st = .int x :: r ∧ (((x.toInt < lo ∨ hi < x.toInt) ∧ a_to pc dflt ls r w = some N) ∨ (¬ (x.toInt < lo ∨ hi < x.toInt) ∧ ∃ off : Int, offs[(x.toInt - lo).toNat]? = some off ∧ a_to pc off ls r w = some N)) := by
  unfold a_tsw at h
  split at h
  · refine ⟨_, _, rfl, ?_⟩
    split at h
    · rename_i h1
      exact Or.inl ⟨h1, h⟩
    · rename_i h1
      split at h
      · rename_i off ho
        exact Or.inr ⟨h1, off, ho, h⟩
      · cases h
  · cases h
theorem lsw_inl {dflt : Int} {ps : Array (Int × Int)} (h : a_lsw dflt ps pc ls st w = some N) : ∃ (x : Int32) (r : List Value), st = .int x :: r ∧ (ps.toList.zip (ps.toList.drop 1)).all (fun (a, next) => a.1 < next.1) = true ∧ a_to pc (Op.lookupswitch.offset ps.toList dflt x.toInt) ls r w = some N := by
  unfold a_lsw at h
  split at h
  · split at h
    · rename_i h1
      exact ⟨_, _, rfl, h1, h⟩
    · cases h
  · cases h
theorem s_tsw (hX : a_X adK adV b sc D cA A p l R s m args meth c d k) (hI : a_I D cA adK b A s H locs θ w) (hF : a_F θ w (mX k) sl ls st) {dflt lo hi : Int} {offs : Array Int} (hd : mLk k pc = some (.tableswitch dflt lo hi offs, len)) (h0 : ins sc d k pc ls st w (.tableswitch dflt lo hi offs) = some N) (hr : nc + N.2.2.2.2.1 ≤ R.cells ∧ ns + N.2.2.2.2.2 ≤ R.slots) (K : a_Go adK b D cA A p l e R s m args below meth c Q k θ w nc ns N) : W p l e R s m args below meth c H locs nc ns Q (F0 m pc sl (st.map (a_V θ))) := by
  obtain ⟨⟨hx, hb, hml, hown, hts⟩, -⟩ := id hX
  obtain ⟨x, r, rfl, h1 | h1⟩ := tsw_inl h0
  · obtain ⟨hq, h1⟩ := h1
    obtain ⟨t, ht, rfl⟩ := to_inl h1
    exact lv_tableOut hx hb (a_dec hX.kN hd) hq ht (K θ H locs sl a_ex_rf hI (hF.st (a_tl hF.2.2)))
  · obtain ⟨hq, off, ho, h1⟩ := h1
    obtain ⟨t, ht, rfl⟩ := to_inl h1
    exact lv_tableIn hx hb (a_dec hX.kN hd) (fun q => hq (Or.inl q)) (fun q => hq (Or.inr q)) ho ht (K θ H locs sl a_ex_rf hI (hF.st (a_tl hF.2.2)))
theorem s_lsw (hX : a_X adK adV b sc D cA A p l R s m args meth c d k) (hI : a_I D cA adK b A s H locs θ w) (hF : a_F θ w (mX k) sl ls st) {dflt : Int} {ps : Array (Int × Int)} (hd : mLk k pc = some (.lookupswitch dflt ps, len)) (h0 : ins sc d k pc ls st w (.lookupswitch dflt ps) = some N) (hr : nc + N.2.2.2.2.1 ≤ R.cells ∧ ns + N.2.2.2.2.2 ≤ R.slots) (K : a_Go adK b D cA A p l e R s m args below meth c Q k θ w nc ns N) : W p l e R s m args below meth c H locs nc ns Q (F0 m pc sl (st.map (a_V θ))) := by
  obtain ⟨⟨hx, hb, hml, hown, hts⟩, -⟩ := id hX
  obtain ⟨x, r, rfl, hp, h1⟩ := lsw_inl h0
  obtain ⟨t, ht, rfl⟩ := to_inl h1
  exact lv_lookup hx hb (a_dec hX.kN hd) hp rfl ht (K θ H locs sl a_ex_rf hI (hF.st (a_tl hF.2.2)))
end AINS
