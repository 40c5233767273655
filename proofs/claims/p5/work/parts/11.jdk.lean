/-! ===== what the abstract machine takes whole: Math, arraycopy, a text's length and signs, Object's constructor ===== -/
theorem a_gd {ws : List Cond} (h : ∀ w ∈ ws, w ∈ ALLW) : GoodIn ALLW ws := fun w hw => ⟨h w hw, (g_ALLW w (h w hw)).2⟩
theorem a_cpl_eq {f g : List Int32} {sp dp n : Nat} (h4 : sp + n ≤ f.length) (h5 : dp + n ≤ g.length) : va_cpy (fun j => f.getD j 0) (fun j => g.getD j 0) sp dp n = fun j => (a_cpl f g sp dp n).getD j 0 := by
  funext j
  unfold va_cpy a_cpl
  have e1 : (g.take dp).length = dp := by rw [List.length_take]; omega
  have e2 : ((f.drop sp).take n).length = n := by rw [List.length_take, List.length_drop]; omega
  simp only [List.getD_eq_getElem?_getD]
  by_cases h1 : j < dp
  · rw [if_neg (by omega), List.getElem?_append_left (by omega), List.getElem?_take, if_pos h1]
  · rw [List.getElem?_append_right (by omega), e1]
    by_cases h2 : j < dp + n
    · rw [if_pos ⟨by omega, h2⟩, List.getElem?_append_left (by omega), List.getElem?_take, if_pos (by omega), List.getElem?_drop]
    · rw [if_neg (by omega), List.getElem?_append_right (by omega), e2, List.getElem?_drop, show dp + n + (j - dp - n) = j from by omega]
theorem a_cpl_len {f g : List Int32} {sp dp n : Nat} (h4 : sp + n ≤ f.length) (h5 : dp + n ≤ g.length) : (a_cpl f g sp dp n).length = g.length := by
  unfold a_cpl
  rw [List.length_append, List.length_append, List.length_take, List.length_take, List.length_drop, List.length_drop]
  omega
section AJD
variable {p : Program} {l : Launch} {e : Env} {R : Room} {s : State} {m : MethodId} {args : Array Value} {below : List Frame} {meth : Method} {c : Code} {H : Heap} {locs : List Loc} {Q : State → Prop}
variable {adK adV : Nat → Nat} {b : Nat} {sc : List Int32} {D : va_G} {cA : Nat → ClassId} {A : Nat → Prop} {θ : Nat → Nat} {w : AW} {ls : AL} {st : List Value} {sl : Array Slot} {d k pc len nc ns : Nat} {N : AN}
theorem mth_inl {f : Int32 → Int32 → Int32} (h : a_mth d f pc ls st w = some N) : ∃ (x y : Int32) (r : List Value), st = .int y :: .int x :: r ∧ (1 ≤ d ∧ a_cat r ≤ 8) ∧ N = (pc + 3, ls, .int (f x y) :: r, w, 0, 0) := by
  unfold a_mth at h
  split at h
  · split at h
    · rename_i h1
      exact ⟨_, _, _, rfl, h1, nx_inl h⟩
    · cases h
  · cases h
theorem abs_inl (h : a_abs d pc ls st w = some N) : ∃ (x : Int32) (r : List Value), st = .int x :: r ∧ (1 ≤ d ∧ a_cat r ≤ 8) ∧ N = (pc + 3, ls, .int (if 0 ≤ x then x else 0 - x) :: r, w, 0, 0) := by
  unfold a_abs at h
  split at h
  · split at h
    · rename_i h1
      exact ⟨_, _, rfl, h1, nx_inl h⟩
    · cases h
  · cases h
theorem obj_inl (h : a_obj d pc ls st w = some N) : ∃ (x : Nat) (r : List Value), st = .ref x :: r ∧ (1 ≤ d ∧ a_cat r ≤ 8) ∧ N = (pc + 3, ls, r, w, 0, 0) := by
  unfold a_obj at h
  split at h
  · split at h
    · rename_i h1
      exact ⟨_, _, rfl, h1, nx_inl h⟩
    · cases h
  · cases h
theorem cpy_inl (h : a_cpy d pc ls st w = some N) : ∃ (n dp sp : Int32) (a a0 : Nat) (r : List Value) (f g : List Int32), st = .int n :: .int dp :: .ref a :: .int sp :: .ref a0 :: r ∧ (1 ≤ d ∧ a_cat r ≤ 8) ∧ (0 ≤ n ∧ 0 ≤ dp ∧ 0 ≤ sp) ∧ w[a]? = some (.inl (0, .inl g)) ∧ w[a0]? = some (.inl (0, .inl f)) ∧ sp.toNatClampNeg + n.toNatClampNeg ≤ f.length ∧ dp.toNatClampNeg + n.toNatClampNeg ≤ g.length ∧
    N = (pc + 3, ls, r, w.set a (.inl (0, .inl (a_cpl f g sp.toNatClampNeg dp.toNatClampNeg n.toNatClampNeg))), 0, 0) := by
  unfold a_cpy at h
  split at h
  · split at h
    · rename_i h1
      split at h
      · rename_i u g u0 f hw hw0
        split at h
        · rename_i h2
          obtain ⟨⟨e1, e2⟩, e3, e4⟩ := h2
          subst e1
          subst e2
          exact ⟨_, _, _, _, _, _, f, g, rfl, h1.1, h1.2, hw, hw0, e3, e4, nx_inl h⟩
        · cases h
      · cases h
    · cases h
  · cases h
theorem sln_inl (h : a_sln d pc ls st w = some N) : ∃ (a : Nat) (r : List Value), st = .ref a :: r ∧ (6 ≤ d ∧ a_cat r ≤ 8) ∧ (a_SB ≤ a ∧ a - a_SB < sN) ∧ N = (pc + 3, ls, .int (Int32.ofNat (sB (a - a_SB)).length) :: r, w, 0, 0) := by
  unfold a_sln at h
  split at h
  · split at h
    · rename_i h1
      exact ⟨_, _, rfl, h1.1, h1.2, nx_inl h⟩
    · cases h
  · cases h
theorem sch_inl (h : a_sch d pc ls st w = some N) : ∃ (i x : Int32) (a : Nat) (r : List Value), st = .int i :: .ref a :: r ∧ (6 ≤ d ∧ a_cat r ≤ 8) ∧ (a_SB ≤ a ∧ a - a_SB < sN) ∧ 0 ≤ i ∧ (sB (a - a_SB))[i.toNatClampNeg]? = some x ∧ N = (pc + 3, ls, .int x :: r, w, 0, 0) := by
  unfold a_sch at h
  split at h
  · split at h
    · rename_i h1
      split at h
      · rename_i x hx
        exact ⟨_, x, _, _, rfl, h1.1, h1.2.1, h1.2.2, hx, nx_inl h⟩
      · cases h
    · cases h
  · cases h
theorem a_room (hX : a_X adK adV b sc D cA A p l R s m args meth c d k) {r : List Value} {z n : Nat} (h1 : z ≤ d) (h2 : a_cat r ≤ 8) (h3 : n ≤ 250) : z ≤ R.frames ∧ ((r.map (a_V θ)).map fun v => v.category).sum + n ≤ R.locals := by
  have h4 := hX.f
  have h5 := hX.lo
  have h6 := a_cat_V θ r
  unfold a_lo at h5
  unfold a_cat at h6 h2
  constructor
  · omega
  · rw [h6]; omega
theorem s_ispec (hX : a_X adK adV b sc D cA A p l R s m args meth c d k) (hI : a_I D cA adK b A s H locs θ w) (hF : a_F θ w (mX k) sl ls st) {x : Nat} (hd : mLk k pc = some (.invokespecial x, len)) (h0 : ins sc d k pc ls st w (.invokespecial x) = some N) (hr : nc + N.2.2.2.2.1 ≤ R.cells ∧ ns + N.2.2.2.2.2 ≤ R.slots) (K : a_Go adK b D cA A p l e R s m args below meth c Q k θ w nc ns N) : W p l e R s m args below meth c H locs nc ns Q (F0 m pc sl (st.map (a_V θ))) := by
  obtain ⟨⟨hx, hb, hml, hown, hts⟩, -⟩ := id hX
  have h1 : a_inp d k x pc ls st w = some N := h0
  unfold a_inp at h1
  split at h1
  · rename_i j hj
    obtain ⟨a, r, rfl, ⟨hd1, hr1⟩, rfl⟩ := obj_inl h1
    have hw : wM (mK k) (x, 2, j) ∈ ALLW := a_inM hX.kc (a_lk_mem hj) (fun z9 => nomatch z9)
    have q1 := a_room (θ := θ) hX hd1 hr1 (n := 12) (by decide)
    refine W.objInit hx hb hown (hts _ hw) (hts _ (a_inB _ (by simp [AWB]))) (hts _ (a_inB _ (by simp [AWB]))) rfl (by rw [hml]; exact hF.1.1) rfl (a_dec1 hX.kN hd rfl) q1.1 (by show 2 * 0 + _ + 12 ≤ _; omega) ?_
    exact K θ H locs sl a_ex_rf hI (hF.st (a_tl hF.2.2))
  · cases h1
set_option maxHeartbeats 1000000 in
theorem s_istat (hX : a_X adK adV b sc D cA A p l R s m args meth c d k) (hI : a_I D cA adK b A s H locs θ w) (hF : a_F θ w (mX k) sl ls st) {x : Nat} (hd : mLk k pc = some (.invokestatic x, len)) (h0 : ins sc d k pc ls st w (.invokestatic x) = some N) (hr : nc + N.2.2.2.2.1 ≤ R.cells ∧ ns + N.2.2.2.2.2 ≤ R.slots) (K : a_Go adK b D cA A p l e R s m args below meth c Q k θ w nc ns N) : W p l e R s m args below meth c H locs nc ns Q (F0 m pc sl (st.map (a_V θ))) := by
  obtain ⟨⟨hx, hb, hml, hown, hts⟩, -⟩ := id hX
  have h1 : a_ins d k x pc ls st w = some N := h0
  unfold a_ins at h1
  split at h1
  · rename_i j hj
    obtain ⟨u, v, r, rfl, ⟨hd1, hr1⟩, rfl⟩ := mth_inl h1
    have hw : wM (mK k) (x, 3, j) ∈ ALLW := a_inM hX.kc (a_lk_mem hj) (fun z9 => nomatch z9)
    have q1 := a_room (θ := θ) hX hd1 hr1 (n := 13) (by decide)
    exact va_mmax hx hb (by rw [hml]; exact hF.1.1.symm) hown (hts _ hw) (hts _ (a_inB _ (by simp [AWB]))) (hts _ (a_inB _ (by simp [AWB]))) (hts _ (a_inB _ (by simp [AWB]))) q1.1 q1.2 hr.1 hr.2 (a_dec1 hX.kN hd rfl) (K θ H locs sl a_ex_rf hI (hF.st (a_kc (a_rk_int _) (a_tl (a_tl hF.2.2)))))
  · rename_i j hj
    obtain ⟨u, v, r, rfl, ⟨hd1, hr1⟩, rfl⟩ := mth_inl h1
    have hw : wM (mK k) (x, 4, j) ∈ ALLW := a_inM hX.kc (a_lk_mem hj) (fun z9 => nomatch z9)
    have q1 := a_room (θ := θ) hX hd1 hr1 (n := 13) (by decide)
    exact va_mmin hx hb (by rw [hml]; exact hF.1.1.symm) hown (hts _ hw) (hts _ (a_inB _ (by simp [AWB]))) (hts _ (a_inB _ (by simp [AWB]))) (hts _ (a_inB _ (by simp [AWB]))) q1.1 q1.2 hr.1 hr.2 (a_dec1 hX.kN hd rfl) (K θ H locs sl a_ex_rf hI (hF.st (a_kc (a_rk_int _) (a_tl (a_tl hF.2.2)))))
  · rename_i j hj
    obtain ⟨u, r, rfl, ⟨hd1, hr1⟩, rfl⟩ := abs_inl h1
    have hw : wM (mK k) (x, 5, j) ∈ ALLW := a_inM hX.kc (a_lk_mem hj) (fun z9 => nomatch z9)
    have q1 := a_room (θ := θ) hX hd1 hr1 (n := 13) (by decide)
    exact va_mabs hx hb (by rw [hml]; exact hF.1.1.symm) hown (hts _ hw) (hts _ (a_inB _ (by simp [AWB]))) (hts _ (a_inB _ (by simp [AWB]))) (hts _ (a_inB _ (by simp [AWB]))) q1.1 q1.2 hr.1 hr.2 (a_dec1 hX.kN hd rfl) (K θ H locs sl a_ex_rf hI (hF.st (a_kc (a_rk_int _) (a_tl hF.2.2))))
  · rename_i j hj
    obtain ⟨n, dp, sp, a, a0, r, f, g, rfl, ⟨hd1, hr1⟩, ⟨hn, hdp, hsp⟩, hwa, hwa0, h4, h5, rfl⟩ := cpy_inl h1
    have hw : wM (mK k) (x, 6, j) ∈ ALLW := a_inM hX.kc (a_lk_mem hj) (fun z9 => nomatch z9)
    have q1 := a_room (θ := θ) hX hd1 hr1 (n := nativeFrameWords "java/lang/System" "arraycopy" 5 + 11) (by decide +kernel)
    refine va_copyi (ty := .int) hx hb (by rw [hml]; exact hF.1.1.symm) hown (hts _ hw) (hts _ (a_inB _ (by simp [AWB]))) (hts _ (a_inB _ (by simp [AWB]))) (hts _ (a_inB _ (by simp [AWB]))) hX.K hI.1 hI.2.1 hI.2.2.1 a0 a 0 0 (a_C_get hwa0) (a_C_get hwa) rfl rfl rfl (a_nn hsp) (a_nn hdp) (a_nn hn) h4 h5 (fun i _ => rfl) q1.1 q1.2 (a_dec1 hX.kN hd rfl) (fun H1 locs1 hP hD hS => ?_)
    rw [a_cpl_eq h4 h5] at hP hD
    have e1 : (θ a, (Sum.inl (cA 0, g.length, .inl (fun j => (a_cpl f g sp.toNatClampNeg dp.toNatClampNeg n.toNatClampNeg).getD j 0)) : va_E)) = (θ a, a_E cA θ (.inl (0, .inl (a_cpl f g sp.toNatClampNeg dp.toNatClampNeg n.toNatClampNeg)))) := by simp [a_E, a_cpl_len h4 h5]
    rw [e1] at hP hD
    exact K θ H1 locs1 sl a_ex_rf (hI.set (fun c9 fs9 q9 => by cases q9) hP hD hS) (hF.set (a_tl (a_tl (a_tl (a_tl (a_tl hF.2.2))))))
  · cases h1
/-- behind a call that left the world as it was -/
theorem a_I.still {H1 : Heap} {locs1 : List Loc} (hI : a_I D cA adK b A s H locs θ w) (hk : ∀ q : Nat, q < H.size → ¬ st_0 q → H1[q]? = H[q]?) (hS : va_S A s.heap H1 locs1) : a_I D cA adK b A s H1 locs1 θ w :=
  ⟨hI.1.kept (fun i q hq => hk q.1 ((hI.1 i q hq).lt) (fun h => h)), hI.2.1, hS, hI.2.2.2⟩
theorem sB_ok : ((List.range sN).all fun i => decide ((sB i).length < 2 ^ 31) && (sB i).all fun x => decide (x &&& 255 = x)) = true := by decide +kernel
theorem a_sB {i : Nat} (h : i < sN) : (sB i).length < 2 ^ 31 ∧ ∀ x ∈ sB i, x &&& 255 = x := by
  have h1 := List.all_eq_true.mp sB_ok i (List.mem_range.mpr h)
  simp only [Bool.and_eq_true, decide_eq_true_eq, List.all_eq_true] at h1
  exact h1
set_option maxHeartbeats 2000000 in
theorem s_ivirt (hX : a_X adK adV b sc D cA A p l R s m args meth c d k) (hI : a_I D cA adK b A s H locs θ w) (hF : a_F θ w (mX k) sl ls st) {x : Nat} (hd : mLk k pc = some (.invokevirtual x, len)) (h0 : ins sc d k pc ls st w (.invokevirtual x) = some N) (hr : nc + N.2.2.2.2.1 ≤ R.cells ∧ ns + N.2.2.2.2.2 ≤ R.slots) (K : a_Go adK b D cA A p l e R s m args below meth c Q k θ w nc ns N) : W p l e R s m args below meth c H locs nc ns Q (F0 m pc sl (st.map (a_V θ))) := by
  obtain ⟨hCF, -⟩ := id hX
  have h1 : a_inv d k x pc ls st w = some N := h0
  unfold a_inv at h1
  split at h1
  · rename_i j hj
    obtain ⟨a, r, rfl, ⟨hd1, hr1⟩, ⟨ha1, ha2⟩, rfl⟩ := sln_inl h1
    have hw : wM (mK k) (x, 7, j) ∈ ALLW := a_inM hX.kc (a_lk_mem hj) (fun z9 => nomatch z9)
    have hG : GoodIn ALLW (wsV (RN (mK k)) x RJ0 yJ0_length_8abf5 wsJ0_length_8abf5) := a_gd (fun z hz => by
      rcases List.mem_append.mp hz with h | h
      · rcases List.mem_cons.mp h with rfl | h
        · exact hw
        · exact a_inJ _ (List.mem_append_left _ (by
            simp only [List.mem_cons, List.not_mem_nil, or_false] at h ⊢
            rcases h with rfl | rfl | rfl <;> simp))
      · exact a_inJ _ (List.mem_append_right _ (List.mem_append_left _ h)))
    have e1 : θ a = adK (a - a_SB) := by
      have := hI.2.2.2.2.2.2 (a - a_SB) ha2
      rwa [show a_SB + (a - a_SB) = a from by omega] at this
    have q1 := a_room (θ := θ) hX hd1 hr1 (n := 50) (by decide)
    have hE := hX.E
    obtain ⟨hS1, hS2⟩ := hE.1 _ ha2
    have K0 := K
    show W p l e R s m args below meth c H locs nc ns Q (F0 m pc sl (.ref (θ a) :: r.map (a_V θ)))
    rw [e1]
    refine va_calli (va_runV (As := []) (rest := r.map (a_V θ)) hCF (c_slen l (adK (a - a_SB)) (adV (a - a_SB)) (sB (a - a_SB)).length (sB (a - a_SB)) A) (cwV 0 hCF.2.2.2.2 hG rfl rfl rfl (by decide +kernel) ⟨by have := q1.1; show 1 + 1 ≤ _; omega, by have := q1.2; show 8 + (1 + 11) + 24 ≤ _; omega⟩)
      ⟨st_blind fun U g mk a h => st_P.go rfl (State.WarmedH.refl U) h, vk_recv (i := 0) hS2 (by decide) hI.2.2.1, fun U hU hW => ⟨rfl, by
        unfold st_P
        rw [hU]
        exact ⟨(vk_S.moved hW.alike hS2).kept (fun q9 g1 g2 => hI.2.2.1.2.1 q9 g1 g2), (va_Z.moved hW.alike hE.2.2.2.1).kept (fun q9 g1 g2 => hI.2.2.1.2.1 q9 g1 g2), (va_Zq.moved hW.alike hE.2.2.2.2.1).kept (fun q9 g1 g2 => hI.2.2.1.2.1 q9 g1 g2)⟩⟩⟩ rfl rfl hF.1.1 rfl (by have := a_cat_V θ r; unfold a_cat at this hr1; show 2 * 0 + _ ≤ 8; omega) (a_dec1 hX.kN hd rfl) ⟨hr.1, hr.2⟩) hI.2.2.1 (fun _ _ h => h.elim) (fun _ h => h.elim)
      (fun r0 u t H1 locs1 ht hvm hw9 hB hz1 hk1 hS9 => ?_)
    have K1 := K0 θ H1 locs1 sl a_ex_rf (hI.still hk1 hS9) (hF.st (a_kc (a_rk_int _) (a_tl hF.2.2)))
    rw [hw9]
    exact K1
  · rename_i j hj
    obtain ⟨i, y, a, r, rfl, ⟨hd1, hr1⟩, ⟨ha1, ha2⟩, hi, hy, rfl⟩ := sch_inl h1
    have hw : wM (mK k) (x, 8, j) ∈ ALLW := a_inM hX.kc (a_lk_mem hj) (fun z9 => nomatch z9)
    have hG : GoodIn ALLW (wsV (RN (mK k)) x RJ0 yJ0_charAt_5068e wsJ0_charAt_5068e) := a_gd (fun z hz => by
      rcases List.mem_append.mp hz with h | h
      · rcases List.mem_cons.mp h with rfl | h
        · exact hw
        · exact a_inJ _ (List.mem_append_left _ (by
            simp only [List.mem_cons, List.not_mem_nil, or_false] at h ⊢
            rcases h with rfl | rfl | rfl <;> simp))
      · exact a_inJ _ (List.mem_append_right _ (List.mem_append_right _ h)))
    have e1 : θ a = adK (a - a_SB) := by
      have := hI.2.2.2.2.2.2 (a - a_SB) ha2
      rwa [show a_SB + (a - a_SB) = a from by omega] at this
    have q1 := a_room (θ := θ) hX hd1 hr1 (n := 100) (by decide)
    have hE := hX.E
    obtain ⟨hS1, hS2⟩ := hE.1 _ ha2
    have K0 := K
    show W p l e R s m args below meth c H locs nc ns Q (F0 m pc sl (.int i :: .ref (θ a) :: r.map (a_V θ)))
    rw [e1]
    refine va_calli (va_runV (As := [.int i]) (rest := r.map (a_V θ)) hCF (c_sch l (adK (a - a_SB)) (adV (a - a_SB)) (sB (a - a_SB)).length (sB (a - a_SB)) A i (a_in hi (a_lt hy)) (a_sB ha2).1) (cwV 1 hCF.2.2.2.2 hG rfl rfl rfl (by decide +kernel) ⟨by have := q1.1; show 3 + 1 ≤ _; omega, by have := q1.2; show 8 + (2 + 11) + 72 ≤ _; omega⟩)
      ⟨st_blind fun U g mk a h => st_P.go rfl (State.WarmedH.refl U) h, vk_recv (i := 0) hS2 (by decide) hI.2.2.1, fun U hU hW => ⟨rfl, by
        unfold st_P
        rw [hU]
        exact ⟨(vk_S.moved hW.alike hS2).kept (fun q9 g1 g2 => hI.2.2.1.2.1 q9 g1 g2), (va_Z.moved hW.alike hE.2.2.2.1).kept (fun q9 g1 g2 => hI.2.2.1.2.1 q9 g1 g2), (va_Zq.moved hW.alike hE.2.2.2.2.1).kept (fun q9 g1 g2 => hI.2.2.1.2.1 q9 g1 g2)⟩⟩⟩ rfl rfl hF.1.1 rfl (by have := a_cat_V θ r; unfold a_cat at this hr1; show 2 * 0 + _ ≤ 8; omega) (a_dec1 hX.kN hd rfl) ⟨hr.1, hr.2⟩) hI.2.2.1 (fun _ _ h => h.elim) (fun _ h => h.elim)
      (fun r0 u t H1 locs1 ht hvm hw9 hB hz1 hk1 hS9 => ?_)
    have K1 := K0 θ H1 locs1 sl a_ex_rf (hI.still hk1 hS9) (hF.st (a_kc (a_rk_int _) (a_tl (a_tl hF.2.2))))
    rw [hw9, a_gD hy, (a_sB ha2).2 y (List.mem_of_getElem? hy)]
    exact K1
  · cases h1
end AJD
