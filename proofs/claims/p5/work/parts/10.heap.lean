/-! ===== the instructions that read and write the world ===== -/
theorem get_inl {c x pc : Nat} {ls : AL} {st : List Value} {w : AW} {N : AN} (h : a_get c x pc ls st w = some N) : ∃ (a ci f : Nat) (fs r : List Value) (v : Value), st = .ref a :: r ∧ a_lk (kF c) x = some (ci, f) ∧ w[a]? = some (.inr (ci, fs)) ∧ fs[f]? = some v ∧ N = (pc + 3, ls, v :: r, w, 0, 0) := by
  unfold a_get at h
  split at h
  · rename_i a r
    split at h
    · rename_i ci f hk
      split at h
      · rename_i cj fs hw
        split at h
        · rename_i e
          subst e
          split at h
          · rename_i v hv
            exact ⟨a, ci, f, fs, r, v, rfl, hk, hw, hv, nx_inl h⟩
          · cases h
        · cases h
      · cases h
    · cases h
  · cases h
theorem put_inl {k x pc : Nat} {ls : AL} {st : List Value} {w : AW} {N : AN} (h : a_put k x pc ls st w = some N) : ∃ (a ci f : Nat) (fs r : List Value) (v : Value), st = v :: .ref a :: r ∧ a_lk (kF (mK k)) x = some (ci, f) ∧ w[a]? = some (.inr (ci, fs)) ∧ f < fs.length ∧ a_fit (YF ci f) v = true ∧ ((TF ci f).2.2.2 = false ∨ (mD k = 2 ∧ mK k = ci)) ∧ N = (pc + 3, ls, r, w.set a (.inr (ci, fs.set f v)), 0, 0) := by
  unfold a_put at h
  split at h
  · rename_i v a r
    split at h
    · rename_i ci f hk
      split at h
      · rename_i cj fs hw
        split at h
        · rename_i e
          obtain ⟨⟨e1, e2⟩, e3, e4⟩ := e
          subst e1
          exact ⟨a, ci, f, fs, r, v, rfl, hk, hw, e2, e3, e4, nx_inl h⟩
        · cases h
      · cases h
    · cases h
  · cases h
theorem a_fit_V {ty : FieldType} {v : Value} (θ : Nat → Nat) (h : a_fit ty v = true) : narrow ty (a_V θ v) = a_V θ v ∧ fits ty (a_V θ v) = true := by
  cases ty <;> cases v <;> first | exact ⟨rfl, rfl⟩ | cases h
theorem a_in {i : Int32} {n : Nat} (h : 0 ≤ i) (h2 : i.toNatClampNeg < n) : vp_in i n := by
  unfold vp_in
  rintro (q | q)
  · exact absurd h (Int32.not_le.mpr q)
  · omega
theorem ild_inl {t pc : Nat} {sc : List Int32} {ls : AL} {st : List Value} {w : AW} {N : AN} (h : a_ild t sc pc ls st w = some N) : ∃ (i x : Int32) (a : Nat) (r : List Value), st = .int i :: .ref a :: r ∧ 0 ≤ i ∧ N = (pc + 1, ls, .int x :: r, w, 0, 0) ∧ ((a = a_SC ∧ t = 0 ∧ sc[i.toNatClampNeg]? = some x) ∨ ∃ l : List Int32, w[a]? = some (.inl (t, .inl l)) ∧ l[i.toNatClampNeg]? = some x) := by
  unfold a_ild at h
  split at h
  · rename_i i a r
    split at h
    · rename_i h0
      split at h
      · rename_i h1
        split at h
        · rename_i x hx
          exact ⟨i, x, a, r, rfl, h0, nx_inl h, Or.inl ⟨h1.1, h1.2, hx⟩⟩
        · cases h
      · split at h
        · rename_i u l hw
          split at h
          · rename_i e
            subst e
            split at h
            · rename_i x hx
              exact ⟨i, x, a, r, rfl, h0, nx_inl h, Or.inr ⟨l, hw, hx⟩⟩
            · cases h
          · cases h
        · cases h
    · cases h
  · cases h
theorem lld_inl {pc : Nat} {ls : AL} {st : List Value} {w : AW} {N : AN} (h : a_lld pc ls st w = some N) : ∃ (i : Int32) (x : Int64) (a : Nat) (r : List Value) (l : List Int64), st = .int i :: .ref a :: r ∧ 0 ≤ i ∧ N = (pc + 1, ls, .long x :: r, w, 0, 0) ∧ w[a]? = some (.inl (2, .inr l)) ∧ l[i.toNatClampNeg]? = some x := by
  unfold a_lld at h
  split at h
  · rename_i i a r
    split at h
    · rename_i h0
      split at h
      · rename_i u l hw
        split at h
        · rename_i e
          subst e
          split at h
          · rename_i x hx
            exact ⟨i, x, a, r, l, rfl, h0, nx_inl h, hw, hx⟩
          · cases h
        · cases h
      · cases h
    · cases h
  · cases h
theorem ist_inl {pc : Nat} {ls : AL} {st : List Value} {w : AW} {N : AN} (h : a_ist pc ls st w = some N) : ∃ (i x : Int32) (a : Nat) (r : List Value) (l : List Int32), st = .int x :: .int i :: .ref a :: r ∧ 0 ≤ i ∧ w[a]? = some (.inl (0, .inl l)) ∧ i.toNatClampNeg < l.length ∧ N = (pc + 1, ls, r, w.set a (.inl (0, .inl (l.set i.toNatClampNeg x))), 0, 0) := by
  unfold a_ist at h
  split at h
  · rename_i x i a r
    split at h
    · rename_i h0
      split at h
      · rename_i u l hw
        split at h
        · rename_i e
          obtain ⟨e1, e2⟩ := e
          subst e1
          exact ⟨i, x, a, r, l, rfl, h0, hw, e2, nx_inl h⟩
        · cases h
      · cases h
    · cases h
  · cases h
theorem bst_inl {pc : Nat} {ls : AL} {st : List Value} {w : AW} {N : AN} (h : a_bst pc ls st w = some N) : ∃ (i x : Int32) (a : Nat) (r : List Value) (l : List Int32), st = .int x :: .int i :: .ref a :: r ∧ 0 ≤ i ∧ w[a]? = some (.inl (1, .inl l)) ∧ i.toNatClampNeg < l.length ∧ N = (pc + 1, ls, r, w.set a (.inl (1, .inl (l.set i.toNatClampNeg x.toInt8.toInt32))), 0, 0) := by
  unfold a_bst at h
  split at h
  · rename_i x i a r
    split at h
    · rename_i h0
      split at h
      · rename_i u l hw
        split at h
        · rename_i e
          obtain ⟨e1, e2⟩ := e
          subst e1
          exact ⟨i, x, a, r, l, rfl, h0, hw, e2, nx_inl h⟩
        · cases h
      · cases h
    · cases h
  · cases h
theorem lst_inl {pc : Nat} {ls : AL} {st : List Value} {w : AW} {N : AN} (h : a_lst pc ls st w = some N) : ∃ (i : Int32) (x : Int64) (a : Nat) (r : List Value) (l : List Int64), st = .long x :: .int i :: .ref a :: r ∧ 0 ≤ i ∧ w[a]? = some (.inl (2, .inr l)) ∧ i.toNatClampNeg < l.length ∧ N = (pc + 1, ls, r, w.set a (.inl (2, .inr (l.set i.toNatClampNeg x))), 0, 0) := by
  unfold a_lst at h
  split at h
  · rename_i x i a r
    split at h
    · rename_i h0
      split at h
      · rename_i u l hw
        split at h
        · rename_i e
          obtain ⟨e1, e2⟩ := e
          subst e1
          exact ⟨i, x, a, r, l, rfl, h0, hw, e2, nx_inl h⟩
        · cases h
      · cases h
    · cases h
  · cases h
theorem aln_inl {pc : Nat} {sc : List Int32} {ls : AL} {st : List Value} {w : AW} {N : AN} (h : a_aln sc pc ls st w = some N) : ∃ (a : Nat) (r : List Value), st = .ref a :: r ∧ ((a = a_SC ∧ N = (pc + 1, ls, .int (Int32.ofNat sc.length) :: r, w, 0, 0)) ∨ (∃ (u : Nat) (l : List Int32), w[a]? = some (.inl (u, .inl l)) ∧ u < 2 ∧ N = (pc + 1, ls, .int (Int32.ofNat l.length) :: r, w, 0, 0)) ∨ ∃ l : List Int64, w[a]? = some (.inl (2, .inr l)) ∧ N = (pc + 1, ls, .int (Int32.ofNat l.length) :: r, w, 0, 0)) := by
  unfold a_aln at h
  split at h
  · rename_i a r
    refine ⟨a, r, rfl, ?_⟩
    split at h
    · rename_i e
      exact Or.inl ⟨e, nx_inl h⟩
    · split at h
      · rename_i u l hw
        split at h
        · rename_i e
          exact Or.inr (Or.inl ⟨u, l, hw, e, nx_inl h⟩)
        · cases h
      · rename_i u l hw
        split at h
        · rename_i e
          subst e
          exact Or.inr (Or.inr ⟨l, hw, nx_inl h⟩)
        · cases h
      · cases h
  · cases h
theorem a_upd {l : List Int32} {i : Nat} {x : Int32} (h : i < l.length) : upd (fun j => l.getD j 0) i x = fun j => (l.set i x).getD j 0 := by
  funext j
  unfold upd
  simp only [List.getD_eq_getElem?_getD, List.getElem?_set]
  by_cases e : j = i
  · subst e; simp [h]
  · simp [e, Ne.symm e]
theorem a_updL {l : List Int64} {i : Nat} {x : Int64} (h : i < l.length) : vp_updL (fun j => l.getD j 0) i x = fun j => (l.set i x).getD j 0 := by
  funext j
  unfold vp_updL
  simp only [List.getD_eq_getElem?_getD, List.getElem?_set]
  by_cases e : j = i
  · subst e; simp [h]
  · simp [e, Ne.symm e]
theorem a_gD {α : Type} {l : List α} {i : Nat} {x d : α} (h : l[i]? = some x) : l.getD i d = x := by simp [List.getD_eq_getElem?_getD, h]
theorem a_lt {α : Type} {l : List α} {i : Nat} {x : α} (h : l[i]? = some x) : i < l.length := (List.getElem?_eq_some_iff.mp h).1
section AHP
variable {p : Program} {l : Launch} {e : Env} {R : Room} {s : State} {m : MethodId} {args : Array Value} {below : List Frame} {meth : Method} {c : Code} {H : Heap} {locs : List Loc} {Q : State → Prop}
variable {adK adV : Nat → Nat} {b : Nat} {sc : List Int32} {D : va_G} {cA : Nat → ClassId} {A : Nat → Prop} {θ : Nat → Nat} {w : AW} {ls : AL} {st : List Value} {sl : Array Slot} {d k pc len nc ns : Nat} {N : AN}
/-- one cell has been written -/
theorem a_I.set {H1 : Heap} {locs1 : List Loc} {a : Nat} {x : AE} (hI : a_I D cA adK b A s H locs θ w) (hx : ∀ (c : Nat) (fs : List Value), x = .inr (c, fs) → ∀ v ∈ fs, a_rk w.length v) (hP : va_P D vwCl ((a_C cA θ w).set a (θ a, a_E cA θ x)) H1) (hD : va_D A ((a_C cA θ w).set a (θ a, a_E cA θ x))) (hS : va_S A s.heap H1 locs1) : a_I D cA adK b A s H1 locs1 θ (w.set a x) := by
  refine ⟨by rw [a_C_set]; exact hP, by rw [a_C_set]; exact hD, hS, a_wf_set hI.2.2.2.1 hx, by rw [List.length_set]; exact hI.2.2.2.2.1, hI.2.2.2.2.2⟩
theorem a_F.set {n a : Nat} {x : AE} {st' : List Value} (hF : a_F θ w n sl ls st) (h' : ∀ v ∈ st', a_rk w.length v) : a_F θ (w.set a x) n sl ls st' := ⟨hF.1, by rw [List.length_set]; exact hF.2.1, by rw [List.length_set]; exact h'⟩
theorem s_getfield (hX : a_X adK adV b sc D cA A p l R s m args meth c d k) (hI : a_I D cA adK b A s H locs θ w) (hF : a_F θ w (mX k) sl ls st) {x : Nat} (hd : mLk k pc = some (.getfield x, len)) (h0 : ins sc d k pc ls st w (.getfield x) = some N) (hr : nc + N.2.2.2.2.1 ≤ R.cells ∧ ns + N.2.2.2.2.2 ≤ R.slots) (K : a_Go adK b D cA A p l e R s m args below meth c Q k θ w nc ns N) : W p l e R s m args below meth c H locs nc ns Q (F0 m pc sl (st.map (a_V θ))) := by
  obtain ⟨⟨hx, hb, hml, hown, hts⟩, -⟩ := id hX
  obtain ⟨a, ci, f, fs, r, v, rfl, hk, hw, hv, rfl⟩ := get_inl h0
  obtain ⟨⟨h1, h2, h3⟩, h4⟩ := a_kF hX.kc hk
  have hkn : a_rk w.length v := hI.2.2.2.1 a ci fs hw v (List.mem_of_getElem? hv)
  exact va_get (ref := RN ci) (D := D) (v := a_V θ v) hx hb hts (a_inU h1) hown hX.K hI.1 a (a_C_get hw) (a_vw h1) f h2 (hts _ h4) (fun z hz => by rw [h3] at hz; exact hz) (by rw [List.getElem?_map, hv]; rfl) (a_dec1 hX.kN hd rfl) (K θ H locs sl a_ex_rf hI (hF.st (a_kc hkn (a_tl hF.2.2))))
theorem s_putfield (hX : a_X adK adV b sc D cA A p l R s m args meth c d k) (hI : a_I D cA adK b A s H locs θ w) (hF : a_F θ w (mX k) sl ls st) {x : Nat} (hd : mLk k pc = some (.putfield x, len)) (h0 : ins sc d k pc ls st w (.putfield x) = some N) (hr : nc + N.2.2.2.2.1 ≤ R.cells ∧ ns + N.2.2.2.2.2 ≤ R.slots) (K : a_Go adK b D cA A p l e R s m args below meth c Q k θ w nc ns N) : W p l e R s m args below meth c H locs nc ns Q (F0 m pc sl (st.map (a_V θ))) := by
  obtain ⟨⟨hx, hb, hml, hown, hts⟩, -, -, hin, -⟩ := id hX
  obtain ⟨a, ci, f, fs, r, v, rfl, hk, hw, hf, hfit, hfin, rfl⟩ := put_inl h0
  obtain ⟨⟨h1, h2, h3⟩, h4⟩ := a_kF hX.kc hk
  have hfv : ∀ u ∈ fs.set f v, a_rk w.length u := fun u hu => (List.mem_or_eq_of_mem_set hu).elim (fun q => hI.2.2.2.1 a ci fs hw u q) (fun q => by rw [q]; exact a_hd hF.2.2)
  have goes : ∀ (H1 : Heap) (locs1 : List Loc), va_P D vwCl ((a_C cA θ w).set a (θ a, .inr (ci, (fs.map (a_V θ)).set f (a_V θ v)))) H1 → va_D A ((a_C cA θ w).set a (θ a, .inr (ci, (fs.map (a_V θ)).set f (a_V θ v)))) → va_S A s.heap H1 locs1 → W p l e R s m args below meth c H1 locs1 nc ns Q (F0 m (pc + 3) sl (r.map (a_V θ))) := by
    intro H1 locs1 hP hD hS
    have e1 : (fs.map (a_V θ)).set f (a_V θ v) = (fs.set f v).map (a_V θ) := by rw [List.map_set]
    rw [e1] at hP hD
    exact K θ H1 locs1 sl a_ex_rf (hI.set (fun c9 fs9 q9 => by cases q9; exact hfv) hP hD hS) (hF.set (a_tl (a_tl hF.2.2)))
  rcases hfin with hfin | ⟨hd2, hkc⟩
  · exact va_put (ref := RN ci) (D := D) (v := a_V θ v) hx hb hts (a_inU h1) (YF ci) (a_tyF h1) (a_nmF h1) hown hX.K hI.1 hI.2.1 hI.2.2.1 a (a_C_get hw) (a_vw h1) f h2 (hts _ h4) (fun z hz => by rw [h3] at hz; exact hz) hfin (a_tyF h1 f h2) (a_fit_V θ hfit).1 (a_fit_V θ hfit).2 (by rw [List.length_map]; exact hf) (a_dec1 hX.kN hd rfl) goes
  · by_cases hfb : (TF ci f).2.2.2 = false
    · exact va_put (ref := RN ci) (D := D) (v := a_V θ v) hx hb hts (a_inU h1) (YF ci) (a_tyF h1) (a_nmF h1) hown hX.K hI.1 hI.2.1 hI.2.2.1 a (a_C_get hw) (a_vw h1) f h2 (hts _ h4) (fun z hz => by rw [h3] at hz; exact hz) hfb (a_tyF h1 f h2) (a_fit_V θ hfit).1 (a_fit_V θ hfit).2 (by rw [List.length_map]; exact hf) (a_dec1 hX.kN hd rfl) goes
    · exact va_putF (ref := RN ci) (D := D) (v := a_V θ v) hx hb hts (a_inU h1) (YF ci) (a_tyF h1) (a_nmF h1) hown hX.K hI.1 hI.2.1 hI.2.2.1 a (a_C_get hw) (a_vw h1) f h2 (hts _ h4) (fun z hz => by rw [h3] at hz; exact hz) (by simpa using hfb) (hin hd2) (by rw [h3, hkc]) (a_tyF h1 f h2) (a_fit_V θ hfit).1 (a_fit_V θ hfit).2 (by rw [List.length_map]; exact hf) (a_dec1 hX.kN hd rfl) goes
theorem s_iaload (hX : a_X adK adV b sc D cA A p l R s m args meth c d k) (hI : a_I D cA adK b A s H locs θ w) (hF : a_F θ w (mX k) sl ls st) (hd : mLk k pc = some (.iaload, len)) (h0 : ins sc d k pc ls st w .iaload = some N) (hr : nc + N.2.2.2.2.1 ≤ R.cells ∧ ns + N.2.2.2.2.2 ≤ R.slots) (K : a_Go adK b D cA A p l e R s m args below meth c Q k θ w nc ns N) : W p l e R s m args below meth c H locs nc ns Q (F0 m pc sl (st.map (a_V θ))) := by
  obtain ⟨⟨hx, hb, hml, hown, hts⟩, -⟩ := id hX
  obtain ⟨i, x, a, r, rfl, hi, rfl, ⟨rfl, -, hv⟩ | ⟨l9, hw, hv⟩⟩ := ild_inl h0
  · have K1 := K θ H locs sl a_ex_rf hI (hF.st (a_kc (a_rk_int x) (a_tl (a_tl hF.2.2))))
    have hE := hX.E.2.2.2.2.2.2.2
    have e1 : θ a_SC = b := hI.2.2.2.2.2.1
    show W p l e R s m args below meth c H locs nc ns Q (F0 m pc sl (.int i :: .ref (θ a_SC) :: r.map (a_V θ)))
    rw [e1]
    refine va_sld hx hb hE.1 hE.2.1 hE.2.2 hI.2.2.1 (a_in hi (a_lt hv)) (a_dec1 hX.kN hd rfl) ?_
    rw [a_gD hv]
    exact K1
  · have K1 := K θ H locs sl a_ex_rf hI (hF.st (a_kc (a_rk_int x) (a_tl (a_tl hF.2.2))))
    refine va_iald hx hb hX.K hI.1 a 0 (a_C_get hw) rfl (a_in hi (a_lt hv)) (a_dec1 hX.kN hd rfl) ?_
    rw [a_gD hv]
    exact K1
theorem s_baload (hX : a_X adK adV b sc D cA A p l R s m args meth c d k) (hI : a_I D cA adK b A s H locs θ w) (hF : a_F θ w (mX k) sl ls st) (hd : mLk k pc = some (.baload, len)) (h0 : ins sc d k pc ls st w .baload = some N) (hr : nc + N.2.2.2.2.1 ≤ R.cells ∧ ns + N.2.2.2.2.2 ≤ R.slots) (K : a_Go adK b D cA A p l e R s m args below meth c Q k θ w nc ns N) : W p l e R s m args below meth c H locs nc ns Q (F0 m pc sl (st.map (a_V θ))) := by
  obtain ⟨⟨hx, hb, hml, hown, hts⟩, -⟩ := id hX
  obtain ⟨i, x, a, r, rfl, hi, rfl, ⟨-, h1, -⟩ | ⟨l9, hw, hv⟩⟩ := ild_inl h0
  · cases h1
  · have K1 := K θ H locs sl a_ex_rf hI (hF.st (a_kc (a_rk_int x) (a_tl (a_tl hF.2.2))))
    refine va_bald hx hb hX.K hI.1 a 1 (a_C_get hw) rfl (a_in hi (a_lt hv)) (a_dec1 hX.kN hd rfl) ?_
    rw [a_gD hv]
    exact K1
theorem s_laload (hX : a_X adK adV b sc D cA A p l R s m args meth c d k) (hI : a_I D cA adK b A s H locs θ w) (hF : a_F θ w (mX k) sl ls st) (hd : mLk k pc = some (.laload, len)) (h0 : ins sc d k pc ls st w .laload = some N) (hr : nc + N.2.2.2.2.1 ≤ R.cells ∧ ns + N.2.2.2.2.2 ≤ R.slots) (K : a_Go adK b D cA A p l e R s m args below meth c Q k θ w nc ns N) : W p l e R s m args below meth c H locs nc ns Q (F0 m pc sl (st.map (a_V θ))) := by
  obtain ⟨⟨hx, hb, hml, hown, hts⟩, -⟩ := id hX
  obtain ⟨i, x, a, r, l9, rfl, hi, rfl, hw, hv⟩ := lld_inl h0
  have K1 := K θ H locs sl a_ex_rf hI (hF.st (a_kc (a_rk_long x) (a_tl (a_tl hF.2.2))))
  refine va_lald hx hb hX.K hI.1 a 2 (a_C_get hw) rfl (a_in hi (a_lt hv)) (a_dec1 hX.kN hd rfl) ?_
  rw [a_gD hv]
  exact K1
theorem s_iastore (hX : a_X adK adV b sc D cA A p l R s m args meth c d k) (hI : a_I D cA adK b A s H locs θ w) (hF : a_F θ w (mX k) sl ls st) (hd : mLk k pc = some (.iastore, len)) (h0 : ins sc d k pc ls st w .iastore = some N) (hr : nc + N.2.2.2.2.1 ≤ R.cells ∧ ns + N.2.2.2.2.2 ≤ R.slots) (K : a_Go adK b D cA A p l e R s m args below meth c Q k θ w nc ns N) : W p l e R s m args below meth c H locs nc ns Q (F0 m pc sl (st.map (a_V θ))) := by
  obtain ⟨⟨hx, hb, hml, hown, hts⟩, -⟩ := id hX
  obtain ⟨i, x, a, r, l9, rfl, hi, hw, hlt, rfl⟩ := ist_inl h0
  refine va_iast hx hb hX.K hI.1 hI.2.1 hI.2.2.1 a 0 (a_C_get hw) rfl (a_in hi hlt) (a_dec1 hX.kN hd rfl) (fun H1 locs1 hP hD hS => ?_)
  rw [a_upd hlt] at hP hD
  have e1 : (θ a, (Sum.inl (cA 0, l9.length, .inl (fun j => (l9.set i.toNatClampNeg x).getD j 0)) : va_E)) = (θ a, a_E cA θ (.inl (0, .inl (l9.set i.toNatClampNeg x)))) := by simp [a_E]
  rw [e1] at hP hD
  exact K θ H1 locs1 sl a_ex_rf (hI.set (fun c9 fs9 q9 => by cases q9) hP hD hS) (hF.set (a_tl (a_tl (a_tl hF.2.2))))
theorem s_bastore (hX : a_X adK adV b sc D cA A p l R s m args meth c d k) (hI : a_I D cA adK b A s H locs θ w) (hF : a_F θ w (mX k) sl ls st) (hd : mLk k pc = some (.bastore, len)) (h0 : ins sc d k pc ls st w .bastore = some N) (hr : nc + N.2.2.2.2.1 ≤ R.cells ∧ ns + N.2.2.2.2.2 ≤ R.slots) (K : a_Go adK b D cA A p l e R s m args below meth c Q k θ w nc ns N) : W p l e R s m args below meth c H locs nc ns Q (F0 m pc sl (st.map (a_V θ))) := by
  obtain ⟨⟨hx, hb, hml, hown, hts⟩, -⟩ := id hX
  obtain ⟨i, x, a, r, l9, rfl, hi, hw, hlt, rfl⟩ := bst_inl h0
  refine va_bast hx hb hX.K hI.1 hI.2.1 hI.2.2.1 a 1 (a_C_get hw) rfl (a_in hi hlt) (a_dec1 hX.kN hd rfl) (fun H1 locs1 hP hD hS => ?_)
  rw [vp_nar_byte, a_upd hlt] at hP hD
  have e1 : (θ a, (Sum.inl (cA 1, l9.length, .inl (fun j => (l9.set i.toNatClampNeg x.toInt8.toInt32).getD j 0)) : va_E)) = (θ a, a_E cA θ (.inl (1, .inl (l9.set i.toNatClampNeg x.toInt8.toInt32)))) := by simp [a_E]
  rw [e1] at hP hD
  exact K θ H1 locs1 sl a_ex_rf (hI.set (fun c9 fs9 q9 => by cases q9) hP hD hS) (hF.set (a_tl (a_tl (a_tl hF.2.2))))
theorem s_lastore (hX : a_X adK adV b sc D cA A p l R s m args meth c d k) (hI : a_I D cA adK b A s H locs θ w) (hF : a_F θ w (mX k) sl ls st) (hd : mLk k pc = some (.lastore, len)) (h0 : ins sc d k pc ls st w .lastore = some N) (hr : nc + N.2.2.2.2.1 ≤ R.cells ∧ ns + N.2.2.2.2.2 ≤ R.slots) (K : a_Go adK b D cA A p l e R s m args below meth c Q k θ w nc ns N) : W p l e R s m args below meth c H locs nc ns Q (F0 m pc sl (st.map (a_V θ))) := by
  obtain ⟨⟨hx, hb, hml, hown, hts⟩, -⟩ := id hX
  obtain ⟨i, x, a, r, l9, rfl, hi, hw, hlt, rfl⟩ := lst_inl h0
  refine va_last hx hb hX.K hI.1 hI.2.1 hI.2.2.1 a 2 (a_C_get hw) rfl (a_in hi hlt) (a_dec1 hX.kN hd rfl) (fun H1 locs1 hP hD hS => ?_)
  rw [a_updL hlt] at hP hD
  have e1 : (θ a, (Sum.inl (cA 2, l9.length, .inr (.inl (fun j => (l9.set i.toNatClampNeg x).getD j 0))) : va_E)) = (θ a, a_E cA θ (.inl (2, .inr (l9.set i.toNatClampNeg x)))) := by simp [a_E]
  rw [e1] at hP hD
  exact K θ H1 locs1 sl a_ex_rf (hI.set (fun c9 fs9 q9 => by cases q9) hP hD hS) (hF.set (a_tl (a_tl (a_tl hF.2.2))))
theorem s_arraylength (hX : a_X adK adV b sc D cA A p l R s m args meth c d k) (hI : a_I D cA adK b A s H locs θ w) (hF : a_F θ w (mX k) sl ls st) (hd : mLk k pc = some (.arraylength, len)) (h0 : ins sc d k pc ls st w .arraylength = some N) (hr : nc + N.2.2.2.2.1 ≤ R.cells ∧ ns + N.2.2.2.2.2 ≤ R.slots) (K : a_Go adK b D cA A p l e R s m args below meth c Q k θ w nc ns N) : W p l e R s m args below meth c H locs nc ns Q (F0 m pc sl (st.map (a_V θ))) := by
  obtain ⟨⟨hx, hb, hml, hown, hts⟩, -⟩ := id hX
  obtain ⟨a, r, rfl, ⟨rfl, rfl⟩ | ⟨u, l9, hw, hu, rfl⟩ | ⟨l9, hw, rfl⟩⟩ := aln_inl h0
  · have K1 := K θ H locs sl a_ex_rf hI (hF.st (a_kc (a_rk_int _) (a_tl hF.2.2)))
    have hE := hX.E.2.2.2.2.2.2.2
    have e1 : θ a_SC = b := hI.2.2.2.2.2.1
    show W p l e R s m args below meth c H locs nc ns Q (F0 m pc sl (.ref (θ a_SC) :: r.map (a_V θ)))
    rw [e1]
    exact va_slen hx hb hE.1 hE.2.1 hE.2.2 hI.2.2.1 (a_dec1 hX.kN hd rfl) K1
  · have K1 := K θ H locs sl a_ex_rf hI (hF.st (a_kc (a_rk_int _) (a_tl hF.2.2)))
    rcases (show u = 0 ∨ u = 1 by omega) with rfl | rfl
    · exact va_alen hx hb hX.K hI.1 a 0 (a_C_get hw) rfl rfl (a_dec1 hX.kN hd rfl) K1
    · exact va_alen hx hb hX.K hI.1 a 1 (a_C_get hw) rfl rfl (a_dec1 hX.kN hd rfl) K1
  · have K1 := K θ H locs sl a_ex_rf hI (hF.st (a_kc (a_rk_int _) (a_tl hF.2.2)))
    exact va_alen hx hb hX.K hI.1 a 2 (a_C_get hw) rfl rfl (a_dec1 hX.kN hd rfl) K1
/-- one cell more -/
theorem a_I.push {H1 : Heap} {q : Nat} {x : AE} (hI : a_I D cA adK b A s H locs θ w) (hw : w.length < a_SC) (hx : ∀ (c : Nat) (fs : List Value), x = .inr (c, fs) → ∀ v ∈ fs, a_rk w.length v) (hP : va_P D vwCl (a_C cA θ w ++ [(q, a_E cA θ x)]) H1) (hD : va_D A (a_C cA θ w ++ [(q, a_E cA θ x)])) (hS : va_S A s.heap H1 locs) : a_ex w.length θ (va_up θ w.length q) ∧ a_I D cA adK b A s H1 locs (va_up θ w.length q) (w ++ [x]) := by
  have hex : a_ex w.length θ (va_up θ w.length q) := fun y hy => va_up_ne θ q (by omega)
  have e1 : a_E cA (va_up θ w.length q) x = a_E cA θ x := by
    rcases x with ⟨t, l9 | l9⟩ | ⟨c9, fs⟩
    · rfl
    · rfl
    · show Sum.inr (c9, fs.map (a_V (va_up θ w.length q))) = Sum.inr (c9, fs.map (a_V θ))
      rw [a_Vs_ex hex (hx c9 fs rfl)]
  have e2 : a_C cA (va_up θ w.length q) (w ++ [x]) = a_C cA θ w ++ [(q, a_E cA θ x)] := by
    rw [a_C_push, a_C_ex hex hI.2.2.2.1, e1, va_up_self]
  refine ⟨hex, by rw [e2]; exact hP, by rw [e2]; exact hD, hS, a_wf_push hI.2.2.2.1 (fun c9 fs9 q9 v hv => a_rk_mono (hx c9 fs9 q9 v hv) (Nat.le_succ _)), by rw [List.length_append]; exact hw, ?_, fun i hi => ?_⟩
  · rw [hex a_SC (Or.inr (Nat.le_refl _))]; exact hI.2.2.2.2.2.1
  · rw [hex _ (Or.inr (by unfold a_SB a_SC; omega))]; exact hI.2.2.2.2.2.2 i hi
theorem a_def_len (c9 : Nat) : (a_def c9).length = NF c9 := by simp [a_def]
theorem a_def_V (θ : Nat → Nat) (c9 : Nat) : (a_def c9).map (a_V θ) = a_def c9 := by
  unfold a_def
  rw [List.map_map]
  exact List.map_congr_left fun j _ => by
    show a_V θ (defaultValue (YF c9 j)) = defaultValue (YF c9 j)
    cases YF c9 j <;> rfl
theorem a_def_k {n c9 : Nat} : ∀ v ∈ a_def c9, a_rk n v := by
  intro v hv
  obtain ⟨j, -, rfl⟩ := List.mem_map.mp hv
  intro a ha
  cases hY : YF c9 j <;> rw [hY] at ha <;> cases ha
theorem new_inl {x : Nat} (h : a_new k x pc ls st w = some N) : ∃ v : Nat, a_lk (kX (mK k)) x = some v ∧ v < 9 ∧ w.length < a_SC ∧ N = (pc + 3, ls, .ref w.length :: st, w ++ [.inr (v, a_def v)], 1, NF v) := by
  unfold a_new at h
  split at h
  · rename_i v hv
    split at h
    · rename_i h1
      exact ⟨v, hv, h1.1, h1.2, (Option.some.inj h).symm⟩
    · cases h
  · cases h
theorem s_new (hX : a_X adK adV b sc D cA A p l R s m args meth c d k) (hI : a_I D cA adK b A s H locs θ w) (hF : a_F θ w (mX k) sl ls st) {x : Nat} (hd : mLk k pc = some (.new x, len)) (h0 : ins sc d k pc ls st w (.new x) = some N) (hr : nc + N.2.2.2.2.1 ≤ R.cells ∧ ns + N.2.2.2.2.2 ≤ R.slots) (K : a_Go adK b D cA A p l e R s m args below meth c Q k θ w nc ns N) : W p l e R s m args below meth c H locs nc ns Q (F0 m pc sl (st.map (a_V θ))) := by
  obtain ⟨⟨hx, hb, hml, hown, hts⟩, -⟩ := id hX
  obtain ⟨v, hv, h1, h2, rfl⟩ := new_inl h0
  have hcl : Cond.classLink (RN (mK k)) x (RN v) ∈ ALLW := by
    have h3 := a_inKX hX.kc (a_lk_mem hv)
    have h4 : xNm v = RN v := by unfold xNm; split <;> first | omega | rfl
    unfold wX at h3
    rw [h4] at h3
    exact h3
  refine va_new (fs := a_def v) hx hb hts (a_inU h1) (YF v) (a_tyF h1) hown (hts _ hcl) (hts _ (a_inN h1)) (hts _ (a_inI (by omega))) hX.K hI.1 hI.2.1 hI.2.2.1 hX.aA (a_vw h1) (fun j hj => by simp [vp_V, a_def, hj]) hr.1 hr.2 (a_dec1 hX.kN hd rfl) (fun q H1 hP hD hS => ?_)
  have e1 : (q, (Sum.inr (v, a_def v) : va_E)) = (q, a_E cA θ (.inr (v, a_def v))) := by
    show _ = (q, Sum.inr (v, (a_def v).map (a_V θ)))
    rw [a_def_V]
  rw [e1] at hP hD
  obtain ⟨hex, hI1⟩ := hI.push h2 (fun c9 fs9 q9 => by cases q9; exact a_def_k) hP hD hS
  have K1 := K (va_up θ w.length q) H1 locs sl hex hI1 ((hF.ex hex (by simp)).st (a_kc (a_rk_ref (Or.inl (by simp))) (fun u hu => a_rk_mono (hF.2.2 u hu) (by simp))))
  have e2 : (Value.ref w.length :: st).map (a_V (va_up θ w.length q)) = .ref q :: st.map (a_V θ) := by
    rw [List.map_cons, a_Vs_ex hex hF.2.2]
    show Value.ref (va_up θ w.length q w.length) :: _ = _
    rw [va_up_self]
  rw [e2] at K1
  exact K1
theorem nwa_inl {ty : ArrayType} (h : a_nwa ty pc ls st w = some N) : ∃ (n : Int32) (r : List Value), st = .int n :: r ∧ 0 ≤ n ∧ n.toNatClampNeg ≤ 10000 ∧ w.length < a_SC ∧
    ((ty = .int ∧ N = (pc + 2, ls, .ref w.length :: r, w ++ [.inl (0, .inl (List.replicate n.toNatClampNeg 0))], 1, n.toNatClampNeg)) ∨ (ty = .byte ∧ N = (pc + 2, ls, .ref w.length :: r, w ++ [.inl (1, .inl (List.replicate n.toNatClampNeg 0))], 1, n.toNatClampNeg)) ∨ (ty = .long ∧ N = (pc + 2, ls, .ref w.length :: r, w ++ [.inl (2, .inr (List.replicate n.toNatClampNeg 0))], 1, n.toNatClampNeg))) := by
  unfold a_nwa at h
  split at h
  · rename_i n r
    split at h
    · rename_i h1
      refine ⟨n, r, rfl, h1.1.1, h1.1.2, h1.2, ?_⟩
      cases ty
      case int => exact Or.inl ⟨rfl, (Option.some.inj h).symm⟩
      case byte => exact Or.inr (Or.inl ⟨rfl, (Option.some.inj h).symm⟩)
      case long => exact Or.inr (Or.inr ⟨rfl, (Option.some.inj h).symm⟩)
      all_goals cases h
    · cases h
  · cases h
theorem a_rep {n j : Nat} {α : Type} {z : α} : (List.replicate n z).getD j z = z := by
  simp only [List.getD_eq_getElem?_getD, List.getElem?_replicate]
  split <;> rfl
theorem a_cA {t : Nat} {ty : FieldType} {q : ClassId} (h : (a_ty cA)[t]? = some (cA t, ty)) (hobj : ∀ C9, ty ≠ .object C9) (hK : va_K D vwCl (a_ty cA) s) (hK1 : va_K D vwCl (a_ty cA ++ [(q, ty)]) s) : q = cA t := by
  have h1 := (hK.2 t _ h).2
  have h2 := (hK1.2 (a_ty cA).length (q, ty) (by simp)).2
  unfold va_RA at h1 h2
  cases ty with
  | object C9 => exact absurd rfl (hobj C9)
  | _ => exact Option.some.inj (h2.symm.trans h1)
theorem a_nn {n : Int32} (h : 0 ≤ n) : ¬ n < 0 := fun q => absurd h (Int32.not_le.mpr q)
theorem s_newarray (hX : a_X adK adV b sc D cA A p l R s m args meth c d k) (hI : a_I D cA adK b A s H locs θ w) (hF : a_F θ w (mX k) sl ls st) {ty : ArrayType} (hd : mLk k pc = some (.newarray ty, len)) (h0 : ins sc d k pc ls st w (.newarray ty) = some N) (hr : nc + N.2.2.2.2.1 ≤ R.cells ∧ ns + N.2.2.2.2.2 ≤ R.slots) (K : a_Go adK b D cA A p l e R s m args below meth c Q k θ w nc ns N) : W p l e R s m args below meth c H locs nc ns Q (F0 m pc sl (st.map (a_V θ))) := by
  obtain ⟨⟨hx, hb, hml, hown, hts⟩, -⟩ := id hX
  obtain ⟨n, r, rfl, hn, hn2, hwl, hc⟩ := nwa_inl h0
  have goes : ∀ (x : AE) (q : Nat) (H1 : Heap), (∀ (c : Nat) (fs : List Value), x = .inr (c, fs) → ∀ v ∈ fs, a_rk w.length v) → N = (pc + 2, ls, .ref w.length :: r, w ++ [x], 1, n.toNatClampNeg) → va_P D vwCl (a_C cA θ w ++ [(q, a_E cA θ x)]) H1 → va_D A (a_C cA θ w ++ [(q, a_E cA θ x)]) → va_S A s.heap H1 locs → W p l e R s m args below meth c H1 locs (nc + 1) (ns + n.toNatClampNeg) Q (F0 m (pc + 2) sl (.ref q :: r.map (a_V θ))) := by
    intro x q H1 hx9 eN hP hD hS
    subst eN
    obtain ⟨hex, hI1⟩ := hI.push hwl hx9 hP hD hS
    have K1 := K (va_up θ w.length q) H1 locs sl hex hI1 ((hF.ex hex (by simp)).st (a_kc (a_rk_ref (Or.inl (by simp))) (fun u hu => a_rk_mono (a_tl hF.2.2 u hu) (by simp))))
    have e2 : (Value.ref w.length :: r).map (a_V (va_up θ w.length q)) = .ref q :: r.map (a_V θ) := by
      rw [List.map_cons, a_Vs_ex hex (a_tl hF.2.2)]
      show Value.ref (va_up θ w.length q w.length) :: _ = _
      rw [va_up_self]
    rw [e2] at K1
    exact K1
  have hN1 : N.2.2.2.2.1 = 1 ∧ N.2.2.2.2.2 = n.toNatClampNeg := by
    rcases hc with ⟨-, rfl⟩ | ⟨-, rfl⟩ | ⟨-, rfl⟩ <;> exact ⟨rfl, rfl⟩
  rw [hN1.1, hN1.2] at hr
  rcases hc with ⟨rfl, eN⟩ | ⟨rfl, eN⟩ | ⟨rfl, eN⟩
  · refine va_newa (atype := .int) (ty := .int) (a0 := (n.toNatClampNeg, .inl (fun _ => 0))) hx hb (hts _ (a_inB _ (by simp [AWB, newarray.typeOf]))) rfl hX.K hI.1 hI.2.1 hI.2.2.1 hX.aA (fun _ => rfl) (a_nn hn) rfl (by simp only [componentBytes]; omega) hr.1 hr.2 (a_dec1 hX.kN hd rfl) (fun q cq H1 hK1 hP hD hS => ?_)
    have e0 : cq = cA 0 := a_cA (t := 0) rfl (fun _ q => by cases q) hX.K hK1
    have e1 : (q, (Sum.inl (cq, n.toNatClampNeg, .inl (fun _ => 0)) : va_E)) = (q, a_E cA θ (.inl (0, .inl (List.replicate n.toNatClampNeg 0)))) := by
      rw [e0]; simp only [a_E, List.length_replicate, a_rep]
    rw [e1] at hP hD
    exact goes _ q H1 (fun c9 fs9 q9 => by cases q9) eN hP hD hS
  · refine va_newa (atype := .byte) (ty := .byte) (a0 := (n.toNatClampNeg, .inl (fun _ => 0))) hx hb (hts _ (a_inB _ (by simp [AWB, newarray.typeOf]))) rfl hX.K hI.1 hI.2.1 hI.2.2.1 hX.aA (fun _ => rfl) (a_nn hn) rfl (by simp only [componentBytes]; omega) hr.1 hr.2 (a_dec1 hX.kN hd rfl) (fun q cq H1 hK1 hP hD hS => ?_)
    have e0 : cq = cA 1 := a_cA (t := 1) rfl (fun _ q => by cases q) hX.K hK1
    have e1 : (q, (Sum.inl (cq, n.toNatClampNeg, .inl (fun _ => 0)) : va_E)) = (q, a_E cA θ (.inl (1, .inl (List.replicate n.toNatClampNeg 0)))) := by
      rw [e0]; simp only [a_E, List.length_replicate, a_rep]
    rw [e1] at hP hD
    exact goes _ q H1 (fun c9 fs9 q9 => by cases q9) eN hP hD hS
  · refine va_newa (atype := .long) (ty := .long) (a0 := (n.toNatClampNeg, .inr (.inl (fun _ => 0)))) hx hb (hts _ (a_inB _ (by simp [AWB, newarray.typeOf]))) rfl hX.K hI.1 hI.2.1 hI.2.2.1 hX.aA (fun _ => rfl) (a_nn hn) rfl (by simp only [componentBytes]; omega) hr.1 hr.2 (a_dec1 hX.kN hd rfl) (fun q cq H1 hK1 hP hD hS => ?_)
    have e0 : cq = cA 2 := a_cA (t := 2) rfl (fun _ q => by cases q) hX.K hK1
    have e1 : (q, (Sum.inl (cq, n.toNatClampNeg, .inr (.inl (fun _ => 0))) : va_E)) = (q, a_E cA θ (.inl (2, .inr (List.replicate n.toNatClampNeg 0)))) := by
      rw [e0]; simp only [a_E, List.length_replicate, a_rep]
    rw [e1] at hP hD
    exact goes _ q H1 (fun c9 fs9 q9 => by cases q9) eN hP hD hS
end AHP
