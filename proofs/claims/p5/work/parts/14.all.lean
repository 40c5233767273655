/-! ===== a call, an end, and all runs ===== -/
theorem a_split {θ : Nat → Nat} {n : Nat} {st r : List Value} {v : Value} (h : st.drop n = v :: r) : st.map (a_V θ) = (((st.take n).reverse).map (a_V θ)).reverse ++ a_V θ v :: r.map (a_V θ) := by
  rw [List.map_reverse, List.reverse_reverse, ← List.map_cons, ← List.map_append, ← h, List.take_append_drop]
theorem a_split0 {θ : Nat → Nat} {n : Nat} {st : List Value} : st.map (a_V θ) = (((st.take n).reverse).map (a_V θ)).reverse ++ (st.drop n).map (a_V θ) := by
  rw [List.map_reverse, List.reverse_reverse, ← List.map_append, List.take_append_drop]
theorem cv_inl {kd j : Nat} {st : List Value} {w : AW} {z : AC} (h : a_cv kd j st w = some z) : ∃ (a : Nat) (fs : List Value) (r : List Value), st.drop (mV j) = .ref a :: r ∧ w[a]? = some (.inr (mK j, fs)) ∧ mD j = kd ∧ j + 1 < mN ∧ mH j = [] ∧ a_cat r ≤ 8 ∧ a_cat (.ref a :: (st.take (mV j)).reverse) ≤ mX j ∧ z = (j, .ref a :: (st.take (mV j)).reverse, r) := by
  unfold a_cv at h
  split at h
  · rename_i a r hs
    split at h
    · rename_i cj fs hw
      split at h
      · rename_i h1
        obtain ⟨⟨rfl, h2⟩, h3, h4, h5, h6⟩ := h1
        exact ⟨a, fs, r, hs, hw, h2, h3, h4, h5, h6, (Option.some.inj h).symm⟩
      · cases h
    · cases h
  · cases h
theorem cs_inl {j : Nat} {st : List Value} {z : AC} (h : a_cs j st = some z) : (mV j ≤ st.length ∧ mD j = 1 ∧ j + 1 < mN ∧ a_cat (st.drop (mV j)) ≤ 8 ∧ a_cat (st.take (mV j)).reverse ≤ mX j) ∧ z = (j, (st.take (mV j)).reverse, st.drop (mV j)) := by
  unfold a_cs at h
  split at h
  · rename_i h1
    exact ⟨⟨h1.1.1, h1.1.2, h1.2⟩, (Option.some.inj h).symm⟩
  · cases h
theorem a_wD0 {j : Nat} (h : mD j = 0) : wD j = [mW j, .instanceMethod (mY j), .selects (mY j).cls (mY j) (mY j)] := by unfold wD; rw [h]; rfl
theorem a_wD1 {j : Nat} (h : mD j = 1) : wD j = [mW j, .static (mY j)] := by unfold wD; rw [h]; rfl
theorem a_wD2 {j : Nat} (h : mD j = 2) : wD j = [mW j, .instanceMethod (mY j)] := by unfold wD; rw [h]; rfl
theorem a_nw_use {w : Cond} (h : a_hw w = true) {args : Array Value} {s : State} (hZ : va_Nw w s) : w.before args s = true := by
  cases w with
  | methodLinkNest a i x h => exact va_Nw.use rfl hZ
  | castable a b => exact va_Nw.use rfl hZ
  | declares x => exact va_Nw.use rfl hZ
  | _ => cases h
theorem a_mWs_in {j : Nat} (h : mW j ∈ ALLW) : ∀ z ∈ mWs j, z ∈ ALLW := fun z hz => (List.mem_cons.mp hz).elim (fun e => by rw [e]; exact h) id
section ALLR
variable {p : Program} {l : Launch} {e : Env} {R : Room} {s : State} {m : MethodId} {args : Array Value} {below : List Frame} {meth : Method} {c : Code} {H : Heap} {locs : List Loc} {Q : State → Prop}
variable {adK adV : Nat → Nat} {b : Nat} {sc : List Int32} {D : va_G} {cA : Nat → ClassId} {A : Nat → Prop} {θ : Nat → Nat} {w : AW} {ls : AL} {st : List Value} {sl : Array Slot} {d k pc len nc ns n : Nat} {N : AN}
set_option maxHeartbeats 4000000 in
theorem a_call {i : Instr} {j : Nat} {ags rest : List Value} {res : AR} (IH : a_FS sc n) (hX : a_X adK adV b sc D cA A p l R s m args meth c (d + 1) k) (hI : a_I D cA adK b A s H locs θ w) (hF : a_F θ w (mX k) sl ls st) (hd : mLk k pc = some (i, len)) (hc : cal k st w i = some (j, ags, rest))
    (h : ev sc n d j 0 (lv_args 0 ags) [] w 0 0 = some res) (hkd : mD j = 0 ∨ ∃ v, res.1 = .inl v) (hr : nc + res.2.2.1 ≤ R.cells ∧ ns + res.2.2.2 ≤ R.slots) :
    vx_Run p l e R s m args below meth c H locs nc ns res.2.2.1 res.2.2.2 (F0 m pc sl (st.map (a_V θ))) (rest.map (a_V θ)) (a_mQc D cA adK b θ w H.size res (ags.map (a_V θ)).toArray) (a_mXC D cA adK b θ w H.size res) (va_A (a_C cA θ w) H.size) ∧ ∀ v ∈ rest, a_rk w.length v := by
  have hCF := hX.1
  have hf := hX.f
  have hlo := hX.lo
  have hstk := hF.2.2
  have hlen : a_lo (d + 1) = a_lo d + 100 := by unfold a_lo; omega
  have met : ∀ {j : Nat} {ags : List Value}, ev sc n d j 0 (lv_args 0 ags) [] w 0 0 = some res → j + 1 < mN → a_cat ags ≤ mX j → (∀ v ∈ ags, a_rk w.length v) → vx_Met l (mY j) (mWs j) (mRm d res) (a_mPc D cA adK adV b sc θ w ags H.size) (a_mQc D cA adK b θ w H.size res) (a_mXC D cA adK b θ w H.size res) res.2.2.1 res.2.2.2 (va_A (a_C cA θ w) H.size) :=
    fun h hj hcat hk => a_met IH h hj hcat hk hI.2.2.2.1 hI.2.2.2.2.1 hI.2.2.2.2.2.1 hI.2.2.2.2.2.2 l hX.2.2.1 D cA adV H.size
  have nox : (∃ v, res.1 = .inl v) → ∀ E s0 t0, ¬ a_mXC D cA adK b θ w H.size res E s0 t0 := by
    rintro ⟨v, hv⟩ E s0 t0 ⟨x, θ', hx, -⟩
    rw [hv] at hx
    cases hx
  have catr : ∀ {r : List Value}, a_cat r ≤ 8 → 2 * (F0 m pc sl (st.map (a_V θ))).monitorRoom + ((r.map (a_V θ)).map fun v => v.category).sum ≤ 8 := fun {r} hr => by
    have := a_cat_V θ r
    unfold a_cat at this hr
    show 2 * 0 + _ ≤ 8
    omega
  have rm : ∀ {j : Nat}, mX j ≤ 60 → (mRm d res).frames + 1 ≤ R.frames ∧ 8 + (mX j + 11) + (mRm d res).locals ≤ R.locals := fun {j} h60 => by
    constructor
    · show d + 1 ≤ _
      exact hf
    · show 8 + (mX j + 11) + a_lo d ≤ _
      omega
  have kin : ∀ v ∈ st, a_rk w.length v := hstk
  cases i with
  | invokevirtual x =>
    have h1 : (match a_lk (kM (mK k)) x with
      | some (0, j) => a_cv 0 j st w
      | _ => none) = some (j, ags, rest) := hc
    split at h1
    · rename_i j0 hj
      obtain ⟨a, fs, r, hs, hw, hD, hjN, hH, hrc, hac, e0⟩ := cv_inl h1
      cases e0
      obtain ⟨f1, f2, f3, f4, f5, f6, f7, f8, f9⟩ := mPb_f (k := j) (by omega)
      have hta : ∀ v ∈ st.take (mV j), a_rk w.length v := fun v hv => kin v (List.mem_of_mem_take hv)
      have hdr : ∀ v ∈ Value.ref a :: rest, a_rk w.length v := fun v hv => kin v (List.mem_of_mem_drop (by rw [hs]; exact hv))
      refine ⟨?_, a_tl hdr⟩
      have hM := met h hjN hac (fun v hv => (List.mem_cons.mp hv).elim (fun q => by rw [q]; exact a_hd hdr) (fun q => hta v (List.mem_reverse.mp q)))
      have hdw := a_inDW hjN
      rw [a_wD0 hD] at hdw
      have hG : GoodIn ALLW (wsV (RN (mK k)) x (mY j).cls (mY j) (mWs j)) := a_gd (fun z hz => by
        rcases List.mem_append.mp hz with q | q
        · simp only [List.mem_cons, List.not_mem_nil, or_false] at q
          rcases q with rfl | rfl | rfl | rfl
          · exact a_inM hX.kc (a_lk_mem hj) (fun z9 => nomatch z9)
          · exact hdw _ (by simp)
          · exact hdw _ (by simp)
          · rw [f3]; exact a_inI f7
        · exact a_mWs_in (hdw _ (by simp)) z q)
      have hl9 : (st.take (mV j)).length = mV j := by
        have : (st.drop (mV j)).length = rest.length + 1 := by rw [hs]; rfl
        rw [List.length_drop] at this
        rw [List.length_take]; omega
      obtain ⟨-, cellB, g1, g2, g3⟩ := a_recv hX hI hw
      exact vx_runV (As := ((st.take (mV j)).reverse).map (a_V θ)) hCF hM (cwV (mV j) hCF.2.2.2.2 hG (by unfold mWs; rw [mW_n hH]) rfl rfl ⟨rfl, f6.1, f6.2, f4⟩ (rm f5))
        ⟨a_mBlind, ⟨cellB, g1, g2, by rw [f3]; exact g3⟩, fun U hU hW => a_pre hX hI hU hW⟩ rfl (by rw [List.length_map, List.length_reverse]; exact hl9) hF.1.1 (a_split hs) (catr hrc) (a_dec1 hX.kN hd rfl) hr
    · cases h1
  | invokestatic x =>
    have h1 : (match a_lk (kM (mK k)) x with
      | some (0, j) => a_cs j st
      | _ => none) = some (j, ags, rest) := hc
    split at h1
    · rename_i j0 hj
      obtain ⟨⟨hle, hD, hjN, hrc, hac⟩, e0⟩ := cs_inl h1
      cases e0
      obtain ⟨f1, f2, f3, f4, f5, f6, f7, f8, f9⟩ := mPb_f (k := j) (by omega)
      refine ⟨?_, fun v hv => kin v (List.mem_of_mem_drop hv)⟩
      have hinl : ∃ v, res.1 = .inl v := hkd.elim (fun q => by rw [hD] at q; cases q) id
      have hM := a_metOf (met h hjN hac (fun v hv => kin v (List.mem_of_mem_take (List.mem_reverse.mp hv)))) (nox hinl)
      have hdw := a_inDW hjN
      rw [a_wD1 hD] at hdw
      have hG : GoodIn ALLW (va_wsS (RN (mK k)) x (mY j) (mWs j)) := a_gd (fun z hz => by
        rcases List.mem_append.mp hz with q | q
        · simp only [List.mem_cons, List.not_mem_nil, or_false] at q
          rcases q with rfl | rfl | rfl
          · exact a_inM hX.kc (a_lk_mem hj) (fun z9 => nomatch z9)
          · exact hdw _ (by simp)
          · rw [f3]; exact a_inI f7
        · exact a_mWs_in (hdw _ (by simp)) z q)
      have hl9 : (st.take (mV j)).length = mV j := by rw [List.length_take]; omega
      cases hH : mH j with
      | nil =>
        exact a_runOf (va_runS (As := ((st.take (mV j)).reverse).map (a_V θ)) hCF hM (va_cwS (mV j) hCF.2.2.2.2 hG (by unfold mWs; rw [mW_n hH]) rfl rfl ⟨f6.1, f6.2, f4⟩ (rm f5))
          ⟨a_mBlind, fun U hU hW => a_pre hX hI hU hW⟩ rfl (by rw [List.length_map, List.length_reverse]; exact hl9) hF.1.1 a_split0 (catr hrc) (a_dec1 hX.kN hd rfl) hr)
      | cons z zs =>
        exact a_runOf (vx_runSW (As := ((st.take (mV j)).reverse).map (a_V θ)) hCF hM (vx_cwSW (mV j) hCF.2.2.2.2 hG (by unfold mWs; rw [mW_h hH]) rfl rfl ⟨f6.1, f6.2, f4⟩ (rm f5))
          ⟨a_mBlind, fun U hU hW => a_pre hX hI hU hW⟩ rfl (by rw [List.length_map, List.length_reverse]; exact hl9) hF.1.1 a_split0 (catr hrc) (a_dec1 hX.kN hd rfl) hr)
    · cases h1
  | invokespecial x =>
    have h1 : (match a_lk (kM (mK k)) x with
      | some (0, j) => a_cv 2 j st w
      | some (1, j) => a_cv 2 j st w
      | _ => none) = some (j, ags, rest) := hc
    have both : ∃ (t j0 : Nat), (t = 0 ∨ t = 1) ∧ a_lk (kM (mK k)) x = some (t, j0) ∧ a_cv 2 j0 st w = some (j, ags, rest) := by
      split at h1
      · rename_i j0 hj
        exact ⟨0, j0, Or.inl rfl, hj, h1⟩
      · rename_i j0 hj
        exact ⟨1, j0, Or.inr rfl, hj, h1⟩
      · cases h1
    obtain ⟨t, j0, ht, hj, h1⟩ := both
    obtain ⟨a, fs, r, hs, hw, hD, hjN, hH, hrc, hac, e0⟩ := cv_inl h1
    cases e0
    obtain ⟨f1, f2, f3, f4, f5, f6, f7, f8, f9⟩ := mPb_f (k := j) (by omega)
    have hta : ∀ v ∈ st.take (mV j), a_rk w.length v := fun v hv => kin v (List.mem_of_mem_take hv)
    have hdr : ∀ v ∈ Value.ref a :: rest, a_rk w.length v := fun v hv => kin v (List.mem_of_mem_drop (by rw [hs]; exact hv))
    refine ⟨?_, a_tl hdr⟩
    have hinl : ∃ v, res.1 = .inl v := hkd.elim (fun q => by rw [hD] at q; cases q) id
    have hM := a_metOf (met h hjN hac (fun v hv => (List.mem_cons.mp hv).elim (fun q => by rw [q]; exact a_hd hdr) (fun q => hta v (List.mem_reverse.mp q)))) (nox hinl)
    have hdw := a_inDW hjN
    rw [a_wD2 hD] at hdw
    have hG : GoodIn ALLW (mWs j) := a_gd (a_mWs_in (hdw _ (by simp)))
    have hini : (Cond.initialized (mY j).cls).before args s = true := by rw [f3]; exact hCF.2.2.2.2 _ (a_inI f7)
    have hin : (Cond.instanceMethod (mY j)).before args s = true := hCF.2.2.2.2 _ (hdw _ (by simp))
    have hl9 : (st.take (mV j)).length = mV j := by
      have : (st.drop (mV j)).length = rest.length + 1 := by rw [hs]; rfl
      rw [List.length_drop] at this
      rw [List.length_take]; omega
    have hw0 : mWs j = Cond.code (mY j) (mB j) (mX j) none :: ALLW := by unfold mWs; rw [mW_n hH, f9 hD]
    rcases ht with rfl | rfl
    · exact a_runOf (va_runI (As := ((st.take (mV j)).reverse).map (a_V θ)) hCF hM (cwI (mV j) hCF.2.2.2.2 hG hw0 rfl rfl hini (hCF.2.2.2.2 _ (a_inM hX.kc (a_lk_mem hj) (fun z9 => nomatch z9))) hin (f8.mp hD) ⟨f6.1, f6.2, f4⟩ (rm f5))
        ⟨a_mBlind, fun U hU hW => a_pre hX hI hU hW⟩ rfl (by rw [List.length_map, List.length_reverse]; exact hl9) hF.1.1 (a_split hs) (catr hrc) (a_dec1 hX.kN hd rfl) hr)
    · have hnw : va_Nw (.methodLinkNest (RN (mK k)) x (mY j) "SnuffMill") s := hX.E.2.2.2.2.2.2.1 _ (a_inMN (q := (x, 1, j)) hX.kc (a_lk_mem hj) rfl)
      exact a_runOf (va_runIN (As := ((st.take (mV j)).reverse).map (a_V θ)) hCF hM ⟨va_cnB (mV j) hCF.2.2.2.2 hG hw0 rfl rfl hnw hini ⟨f6.1, f6.2, f4⟩ (rm f5), f8.mp hD, hin⟩
        ⟨a_mBlind, fun U hU hW => a_pre hX hI hU hW⟩ rfl (by rw [List.length_map, List.length_reverse]; exact hl9) hF.1.1 (a_split hs) (catr hrc) (a_dec1 hX.kN hd rfl) hr)
  | _ => cases hc
theorem ret_gen {i : Instr} {o : AO} (h : a_ret k i st = some o) : ∃ v, o = (.inl v, 0, 0) := by
  unfold a_ret at h
  split at h
  · cases h; exact ⟨_, rfl⟩
  · split at h
    · cases h; exact ⟨_, rfl⟩
    · cases h
  · cases h; exact ⟨_, rfl⟩
  · cases h; exact ⟨_, rfl⟩
  · cases h
theorem thr_inl {v : Nat} (h : a_thr k pc v = true) : mK k = 7 ∧ ∃ (x y i : Nat), mLk k (pc + 3) = some (.dup, 1) ∧ mLk k (pc + 4) = some (.ldc_w x, 3) ∧ mLk k (pc + 7) = some (.invokespecial y, 3) ∧ mLk k (pc + 10) = some (.athrow, 1) ∧ a_lk (kS 7) x = some i ∧ i < sN ∧ ((v = 100 → y = 340) ∧ (¬ v = 100 → y = 347)) := by
  unfold a_thr at h
  rw [Bool.and_eq_true] at h
  obtain ⟨h1, h2⟩ := h
  refine ⟨Nat.eq_of_beq_eq_true h1, ?_⟩
  split at h2
  · rename_i x y e1 e2 e3 e4
    rw [Bool.and_eq_true] at h2
    obtain ⟨h3, h4⟩ := h2
    split at h3
    · rename_i i e5
      refine ⟨x, y, i, e1, e2, e3, e4, e5, Nat.le_of_ble_eq_true h3, fun hv => ?_, fun hv => ?_⟩
      · subst hv
        exact Nat.eq_of_beq_eq_true h4
      · have : Nat.beq v 100 = false := by
          cases hb : Nat.beq v 100 with
          | true => exact absurd (Nat.eq_of_beq_eq_true hb) hv
          | false => rfl
        rw [this] at h4
        exact Nat.eq_of_beq_eq_true h4
    · cases h3
  · cases h2
theorem xw_ok : ∀ v : Nat, v = 100 ∨ v = 101 → ∀ w ∈ Cond.classLink RX7 0 (xNm v) :: Cond.initialized (xNm v) :: a_xw v, vx_ot w = true := by
  rintro v (rfl | rfl) <;> decide +kernel
theorem xw_before (hX : a_X adK adV b sc D cA A p l R s m args meth c d k) {v : Nat} (hv : v = 100 ∨ v = 101) : ∀ w ∈ a_xw v, w.before args s = true := by
  intro w hw
  cases hg : goodWord w with
  | true =>
    refine hX.1.2.2.2.2 _ (a_inX _ (List.mem_append_right _ ?_))
    rcases hv with rfl | rfl
    · exact List.mem_append_left _ (List.mem_filter.mpr ⟨hw, hg⟩)
    · exact List.mem_append_right _ (List.mem_filter.mpr ⟨hw, hg⟩)
  | false =>
    have hm : w ∈ AWN := by
      refine List.mem_append_right _ (List.mem_append_right _ ?_)
      rcases hv with rfl | rfl
      · exact List.mem_append_left _ (List.mem_filter.mpr ⟨hw, by rw [hg]; rfl⟩)
      · exact List.mem_append_right _ (List.mem_filter.mpr ⟨hw, by rw [hg]; rfl⟩)
    exact a_nw_use (List.all_eq_true.mp AWN_hw w hm) (hX.E.2.2.2.2.2.2.1 w hm)
set_option maxHeartbeats 2000000 in
theorem s_fin {i : Instr} {o : AO} {n0 : Nat} {θ0 : Nat → Nat} (hX : a_X adK adV b sc D cA A p l R s m args meth c d k) (hI : a_I D cA adK b A s H locs θ w) (hF : a_F θ w (mX k) sl ls st) (hd : mLk k pc = some (i, len)) (h0 : fin d k pc st i = some o) (hex : a_ex n0 θ0 θ) (hr : nc + o.2.1 ≤ R.cells ∧ ns + o.2.2 ≤ R.slots)
    (hEnd : a_End adK b D cA A p l e R s m args below meth c Q k n0 θ0 (o.1, w, nc + o.2.1, ns + o.2.2)) : W p l e R s m args below meth c H locs nc ns Q (F0 m pc sl (st.map (a_V θ))) := by
  have one : ∀ j : Instr, a_lenOk j len = Nat.beq len 1 → mLk k pc = some (j, len) → mLk k pc = some (j, 1) := fun j hj h9 => by
    have h1 := a_declen hX.kN h9
    rw [hj] at h1
    rw [← Nat.eq_of_beq_eq_true h1]; exact h9
  have hret : ∀ j : Instr, a_lenOk j len = Nat.beq len 1 → mLk k pc = some (j, len) → a_ret k j st = some o → W p l e R s m args below meth c H locs nc ns Q (F0 m pc sl (st.map (a_V θ))) := fun j hj h9 hr9 => by
    obtain ⟨v, rfl⟩ := ret_gen hr9
    exact hEnd.1 v rfl θ H locs sl pc j st (one j hj h9) hr9 hex hI
  cases i with
  | ireturn => exact hret _ rfl hd h0
  | lreturn => exact hret _ rfl hd h0
  | return_ => exact hret _ rfl hd h0
  | new x =>
    have h1 : a_thx d k x pc st = some o := h0
    unfold a_thx at h1
    split at h1
    · rename_i v hv
      split at h1
      · rename_i h2
        obtain ⟨hv9, hd6, hcat, hthr, hH⟩ := h2
        cases h1
        obtain ⟨h7, x1, y, i, e1, e2, e3, e4, e5, hi, hy⟩ := thr_inl hthr
        obtain ⟨⟨hx, hb, hml, hown, hts⟩, hlocks, hl, -, htab, -⟩ := id hX
        obtain ⟨Qc, XC, free, hQ, hfree, hxc⟩ := hEnd.2 v rfl
        subst hQ
        have hE := hX.E
        have hf := hX.f
        have hlo := hX.lo
        have hkn := hX.kN
        rw [h7] at hown hv
        have hxw : a_xw v = (a_xAll RX7 y (xNm v) (a_rj v) (a_rx v)).filter vx_no := by
          rcases hv9 with rfl | rfl
          · rw [hy.1 rfl]; rfl
          · rw [hy.2 (by decide)]; rfl
        have hot := xw_ok v hv9
        refine a_throwSW (own := RX7) (cls := xNm v) (text := sT i) (ik := x) (is := x1) (ic := y) (ix := a_rj v) (rx := a_rx v) (sa := adK i) (A := A) (cc := mB k) hx hb hl ?_ ?_ ?_ ?_ hown ?_ (hts _ (a_inKX (c := 7) (by decide) (a_lk_mem hv))) (hts _ (a_inX _ (List.mem_append_left _ ?_))) ?_ ?_ ?_ hE.2.1 hE.2.2.1 hI.2.2.1 (by rw [hml]; exact hF.1.1)
          (a_dec1 hkn hd rfl) (a_dec hkn e1) (a_dec hkn e2) (a_dec hkn e3) (a_dec hkn e4) ?_ ?_ ?_ hr.1 hr.2 hlocks ?_ ?_ (Nat.le_refl _) (Nat.le_refl _)
        · rcases hv9 with rfl | rfl <;> decide +kernel
        · rcases hv9 with rfl | rfl <;> decide +kernel
        · rcases hv9 with rfl | rfl <;> decide +kernel
        · rcases hv9 with rfl | rfl <;> decide +kernel
        · rcases hv9 with rfl | rfl <;> decide +kernel
        · rcases hv9 with rfl | rfl <;> simp
        · have := a_str hX (x := x1) (i := i) (by rw [h7]; exact e5)
          rw [h7] at this
          exact this
        · rw [← hxw]; exact xw_before hX hv9
        · rw [← hxw]
          intro z hz
          rcases List.mem_cons.mp hz with rfl | hz
          · rfl
          · exact hot z (List.mem_cons_of_mem _ hz)
        · intro z hz
          rw [htab, hH] at hz
          cases hz
        · omega
        · have := a_cat_V θ st
          unfold a_cat at this hcat
          unfold a_lo at hlo
          omega
        · intro t ht hz hq
          exact hxc θ H locs t hex hI ht hz hq
        · exact fun z hz => hfree _ (hI.2.2.1.2.2 z hz)
      · cases h1
    · cases h1
  | _ => cases h0
end ALLR
