/-! ===== calls, ends, and the whole ===== -/
theorem a_argsmap (θ : Nat → Nat) : ∀ (vs : List Value) (n : Nat), lv_args n (vs.map (a_V θ)) = (lv_args n vs).map fun q => (q.1, a_V θ q.2)
  | [], n => rfl
  | v :: vs, n => by
    show (n, a_V θ v) :: lv_args (if (a_V θ v).category = 2 then n + 2 else n + 1) (vs.map (a_V θ)) = (n, a_V θ v) :: (lv_args (if v.category = 2 then n + 2 else n + 1) vs).map fun q => (q.1, a_V θ q.2)
    rw [a_V_cat, a_argsmap θ vs]
theorem a_argsk {P : Value → Prop} : ∀ (vs : List Value) (n : Nat), (∀ v ∈ vs, P v) → ∀ q ∈ lv_args n vs, P q.2
  | [], n, _, q, hq => nomatch hq
  | v :: vs, n, h, q, hq => by
    rcases List.mem_cons.mp hq with rfl | hq
    · exact h v List.mem_cons_self
    · exact a_argsk vs _ (fun u hu => h u (List.mem_cons_of_mem _ hu)) q hq
theorem a_sl_len : ∀ vs : List Value, (lg_sl vs).length = a_cat vs
  | [] => rfl
  | v :: vs => by
    have h1 := a_sl_len vs
    unfold lg_sl a_cat at h1 ⊢
    rw [List.flatMap_cons, List.length_append, h1, List.map_cons, List.sum_cons]
    rcases lv_cat v with h | h <;> simp [h]
noncomputable def a_J (D : va_G) (cA : Nat → ClassId) (adK : Nat → Nat) (b : Nat) (A : Nat → Prop) (H : Heap) (θ : Nat → Nat) (w : AW) : Prop :=
  va_P D vwCl (a_C cA θ w) H ∧ va_D A (a_C cA θ w) ∧ a_wf w.length w ∧ w.length ≤ a_SC ∧ θ a_SC = b ∧ ∀ i : Nat, i < sN → θ (a_SB + i) = adK i
noncomputable def a_End (adK : Nat → Nat) (b : Nat) (D : va_G) (cA : Nat → ClassId) (A : Nat → Prop) (p : Program) (l : Launch) (e : Env) (R : Room) (s : State) (m : MethodId) (args : Array Value) (below : List Frame) (meth : Method) (c : Code) (Q : State → Prop) (k n0 : Nat) (θ0 : Nat → Nat) (res : AR) : Prop :=
  (∀ v : Option Value, res.1 = .inl v → ∀ (θ' : Nat → Nat) (H' : Heap) (locs' : List Loc) (sl' : Array Slot) (pc' : Nat) (i : Instr) (st' : List Value), mLk k pc' = some (i, 1) → a_ret k i st' = some (.inl v, 0, 0) → a_ex n0 θ0 θ' → a_I D cA adK b A s H' locs' θ' res.2.1 → W p l e R s m args below meth c H' locs' res.2.2.1 res.2.2.2 Q (F0 m pc' sl' (st'.map (a_V θ')))) ∧
  (∀ x : Nat, res.1 = .inr x → ∃ (Qc : Array Value → State → Outcome → State → Prop) (XC : String → State → State → Prop) (free : Addr → Prop), Q = vx_MQ below Qc XC args s res.2.2.1 res.2.2.2 free ∧ (∀ q, A q → free q) ∧
    ∀ (θ' : Nat → Nat) (H' : Heap) (locs' : List Loc) (t : State), a_ex n0 θ0 θ' → a_I D cA adK b A s H' locs' θ' res.2.1 → s.vm.Alike t.vm → H'.size ≤ t.heap.size → (∀ q : Nat, q < H'.size → t.heap[q]? = H'[q]?) → XC (xNm x) s t)
noncomputable def a_FS (sc : List Int32) (n : Nat) : Prop := ∀ (d k pc : Nat) (ls : AL) (st : List Value) (w : AW) (nc ns : Nat) (res : AR), ev sc n d k pc ls st w nc ns = some res → nc ≤ res.2.2.1 ∧ ns ≤ res.2.2.2 ∧ w.length ≤ res.2.1.length ∧
  ∀ (p : Program) (l : Launch) (e : Env) (R : Room) (s : State) (m : MethodId) (args : Array Value) (below : List Frame) (meth : Method) (c : Code) (H : Heap) (locs : List Loc) (Q : State → Prop) (adK adV : Nat → Nat) (b : Nat) (D : va_G) (cA : Nat → ClassId) (A : Nat → Prop) (θ : Nat → Nat) (sl : Array Slot) (n0 : Nat) (θ0 : Nat → Nat),
    a_X adK adV b sc D cA A p l R s m args meth c d k → a_I D cA adK b A s H locs θ w → a_F θ w (mX k) sl ls st → a_ex n0 θ0 θ → n0 ≤ w.length → res.2.2.1 ≤ R.cells → res.2.2.2 ≤ R.slots → a_End adK b D cA A p l e R s m args below meth c Q k n0 θ0 res →
    W p l e R s m args below meth c H locs nc ns Q (F0 m pc sl (st.map (a_V θ)))
noncomputable def mWs (j : Nat) : List Cond := mW j :: ALLW
noncomputable def mRm (d : Nat) (res : AR) : Room := { frames := d, cells := res.2.2.1, slots := res.2.2.2, locals := a_lo d }
noncomputable def a_mPc (D : va_G) (cA : Nat → ClassId) (adK adV : Nat → Nat) (b : Nat) (sc : List Int32) (θ : Nat → Nat) (w : AW) (ags : List Value) (sz : Nat) : Array Value → State → Prop :=
  va_Pc (ags.map (a_V θ)) (fun U => U.heap.size = sz ∧ va_P D vwCl (a_C cA θ w) U.heap ∧ va_K D vwCl (a_ty cA) U ∧ va_D (fun _ => True) (a_C cA θ w) ∧ a_Env adK adV b sc (va_A (a_C cA θ w) sz) U U.heap)
noncomputable def a_mQc (D : va_G) (cA : Nat → ClassId) (adK : Nat → Nat) (b : Nat) (θ : Nat → Nat) (w : AW) (sz : Nat) (res : AR) : Array Value → State → Outcome → State → Prop := fun _ st oc t =>
  (∃ (v : Option Value) (θ' : Nat → Nat), res.1 = .inl v ∧ a_ex w.length θ θ' ∧ oc = .returned v ∧ a_J D cA adK b (va_A (a_C cA θ w) sz) t.heap θ' res.2.1 ∧ ∀ u ∈ v.toList, ∀ n : Nat, a_rk n u ∧ ∀ θ2 : Nat → Nat, a_V θ2 u = u) ∧ va_F (va_A (a_C cA θ w) sz) st t
noncomputable def a_mXC (D : va_G) (cA : Nat → ClassId) (adK : Nat → Nat) (b : Nat) (θ : Nat → Nat) (w : AW) (sz : Nat) (res : AR) : String → State → State → Prop := fun E st t =>
  ∃ (x : Nat) (θ' : Nat → Nat), res.1 = .inr x ∧ E = xNm x ∧ a_ex w.length θ θ' ∧ a_J D cA adK b (va_A (a_C cA θ w) sz) t.heap θ' res.2.1 ∧ va_F (va_A (a_C cA θ w) sz) st t
theorem mW_n {j : Nat} (h : mH j = []) : mW j = .code (mY j) (mB j) (mX j) (mR j) := by unfold mW; rw [h]
theorem mW_h {j : Nat} {z : Nat × Nat × Nat × Nat} {zs : List (Nat × Nat × Nat × Nat)} (h : mH j = z :: zs) : mW j = .codeWith (mY j) (mB j) (mX j) (mR j) (mH j) := by unfold mW; rw [h]
theorem ret_inl {k : Nat} {i : Instr} {st : List Value} {v : Option Value} (h : a_ret k i st = some (.inl v, 0, 0)) : (∃ x : Int32, i = .ireturn ∧ st = [.int x] ∧ v = some (.int x) ∧ (mR k = some .int ∨ (mR k = some .boolean ∧ (x = 0 ∨ x = 1)))) ∨ (∃ x : Int64, i = .lreturn ∧ st = [.long x] ∧ v = some (.long x) ∧ mR k = some .long) ∨ (i = .return_ ∧ st = [] ∧ v = none ∧ mR k = none) := by
  unfold a_ret at h
  split at h
  · rename_i x hR
    cases h
    exact Or.inl ⟨x, rfl, rfl, rfl, Or.inl hR⟩
  · rename_i x hR
    split at h
    · rename_i h1
      cases h
      exact Or.inl ⟨x, rfl, rfl, rfl, Or.inr ⟨hR, h1⟩⟩
    · cases h
  · rename_i x hR
    cases h
    exact Or.inr (Or.inl ⟨x, rfl, rfl, rfl, hR⟩)
  · rename_i hR
    cases h
    exact Or.inr (Or.inr ⟨rfl, rfl, rfl, hR⟩)
  · cases h
theorem a_I.J {D : va_G} {cA : Nat → ClassId} {adK : Nat → Nat} {b : Nat} {A : Nat → Prop} {s : State} {H : Heap} {locs : List Loc} {θ : Nat → Nat} {w : AW} (h : a_I D cA adK b A s H locs θ w) : a_J D cA adK b A H θ w := ⟨h.1, h.2.1, h.2.2.2⟩
set_option maxHeartbeats 4000000 in
theorem a_met {sc : List Int32} {n d j : Nat} (IH : a_FS sc n) {ags : List Value} {w : AW} {res : AR} (h : ev sc n d j 0 (lv_args 0 ags) [] w 0 0 = some res) (hj : j + 1 < mN) (hcat : a_cat ags ≤ mX j) (hk : ∀ v ∈ ags, a_rk w.length v)
    {θ adK : Nat → Nat} {b : Nat} (hwf : a_wf w.length w) (hwl : w.length ≤ a_SC) (hbb : θ a_SC = b) (hss : ∀ i : Nat, i < sN → θ (a_SB + i) = adK i) (l : Launch) (hl : l.stackTraces = false) (D : va_G) (cA : Nat → ClassId) (adV : Nat → Nat) (sz : Nat) :
    vx_Met l (mY j) (mWs j) (mRm d res) (a_mPc D cA adK adV b sc θ w ags sz) (a_mQc D cA adK b θ w sz res) (a_mXC D cA adK b θ w sz res) res.2.2.1 res.2.2.2 (va_A (a_C cA θ w) sz) := by
  obtain ⟨f1, f2, f3, f4, f5, f6, f7, f8, f9⟩ := mPb_f (k := j) (by omega)
  have body : ∀ p e s m args below meth c s₁, BodyLoose p l (mY j) (headSpec (mWs j) (mRm d res)) (mB j) (mX j) (mR j) e s m args below meth c s₁ → c.maxLocals = mX j → c.exceptionTable.toList = tableOf (mH j) → a_mPc D cA adK adV b sc θ w ags sz args s →
      W p l e (headSpec (mWs j) (mRm d res)).room s m args below meth c s.heap [] 0 0 (vx_MQ below (a_mQc D cA adK b θ w sz res) (a_mXC D cA adK b θ w sz res) args s res.2.2.1 res.2.2.2 (va_A (a_C cA θ w) sz)) (entryFrame m args (mX j)) := by
    intro p e s m args below meth c s₁ B hml ht hv
    obtain ⟨rfl, hsz, hP, hK, hD0, hE⟩ := hv
    subst hsz
    have hts := atoms_spec (ws := mWs j) B.pre
    have hX : a_X adK adV b sc D cA (va_A (a_C cA θ w) s.heap.size) p l (headSpec (mWs j) (mRm d res)).room s m (ags.map (a_V θ)).toArray meth c d j :=
      ⟨⟨B.exec, B.bytes, hml, by rw [← f3]; exact findClass_of_methodNamed B.named, fun w hw => hts w (List.mem_cons_of_mem _ hw)⟩, B.notSynchronized, hl, fun h2 => ((name_of_methodNamed B.named B.method).1).trans (f8.mp h2), ht, hK, hE, fun q hq => Or.inr hq, Nat.le_refl _, Nat.le_refl _, by omega⟩
    rw [lg_entry_eq]
    have hl9 := lv_entry (ags.map (a_V θ)) (n := mX j) (by rw [a_sl_len, a_cat_V]; exact hcat)
    generalize (lg_sl (ags.map (a_V θ)) ++ List.replicate (mX j - (lg_sl (ags.map (a_V θ))).length) Slot.unset).toArray = sl at hl9 ⊢
    have hI : a_I D cA adK b (va_A (a_C cA θ w) s.heap.size) s s.heap [] θ w := ⟨hP, hD0.self, va_S.rf, hwf, hwl, hbb, hss⟩
    have hr := B.returns
    have hlocks := B.notSynchronized
    refine (IH d j 0 _ [] w 0 0 res h).2.2.2 p l e _ s m _ below meth c s.heap [] _ adK adV b D cA _ θ sl w.length θ hX hI ⟨by rw [← a_argsmap]; exact hl9, a_argsk ags 0 hk, fun _ q => nomatch q⟩ a_ex_rf (Nat.le_refl _) (Nat.le_refl _) (Nat.le_refl _) ⟨?_, ?_⟩
    · intro v hres θ' H' locs' sl' pc' i st' hlk hret hex hI'
      have hdg := a_dec (k := j) (by omega) hlk
      have J := hI'.J
      refine vx_ret ?_
      rcases ret_inl hret with ⟨x, rfl, rfl, rfl, hR | ⟨hR, hx01⟩⟩ | ⟨x, rfl, rfl, rfl, hR⟩ | ⟨rfl, rfl, rfl, hR⟩
      · exact W.iret (v := x) B.exec B.bytes (by rw [hr, hR]) (fun t ht2 _ => ⟨⟨_, θ', hres, hex, rfl, by rw [ht2]; exact J, fun u hu n => by simp at hu; subst hu; exact ⟨a_rk_int x, fun _ => rfl⟩⟩, hI'.2.2.1.F ht2⟩) hI'.2.2.1.2.2 hdg
      · exact W.zret (v := x) (ty := .boolean) B.exec B.bytes (by rw [hr, hR]) (by rcases hx01 with rfl | rfl <;> rfl) (fun t ht2 _ => ⟨⟨_, θ', hres, hex, rfl, by rw [ht2]; exact J, fun u hu n => by simp at hu; subst hu; exact ⟨a_rk_int x, fun _ => rfl⟩⟩, hI'.2.2.1.F ht2⟩) hI'.2.2.1.2.2 hdg
      · exact W.lret (v := x) B.exec B.bytes (by rw [hr, hR]) (fun t ht2 _ => ⟨⟨_, θ', hres, hex, rfl, by rw [ht2]; exact J, fun u hu n => by simp at hu; subst hu; exact ⟨a_rk_long x, fun _ => rfl⟩⟩, hI'.2.2.1.F ht2⟩) hI'.2.2.1.2.2 hdg
      · exact W.vret B.exec B.bytes (by rw [hr, hR]) (fun t ht2 _ => ⟨⟨_, θ', hres, hex, rfl, by rw [ht2]; exact J, fun u hu n => by simp at hu⟩, hI'.2.2.1.F ht2⟩) hI'.2.2.1.2.2 hdg
    · intro x hres
      refine ⟨_, _, _, rfl, fun q hq => hq, fun θ' H' locs' t hex hI' _ hz hq => ⟨x, θ', hres, rfl, hex, ?_, ?_⟩⟩
      · exact ⟨hI'.1.kept (fun i q9 h9 => hq q9.1 ((hI'.1 i q9 h9).lt)), hI'.2.1, hI'.2.2.2⟩
      · exact ⟨Nat.le_trans hI'.2.2.1.1 hz, fun q g1 g2 => (hq q (Nat.lt_of_lt_of_le g1 hI'.2.2.1.1)).trans (hI'.2.2.1.2.1 q g1 g2)⟩
  cases hH : mH j with
  | nil =>
    refine vx_ofW (cc := mB j) (maxL := mX j) (ret := mR j) f2 (by unfold mWs; rw [mW_n hH]) (fun p e s m args below meth c s₁ B hml ht hv => body p e s m args below meth c s₁ B hml ?_ hv)
    rw [hH]
    exact List.eq_nil_iff_forall_not_mem.mpr (fun x hx => ht x hx)
  | cons z zs =>
    refine vx_ofWH (cc := mB j) (maxL := mX j) (ret := mR j) (hh := mH j) f2 (by unfold mWs; rw [mW_h hH]) (fun p e s m args below meth c s₁ B hml hv => body p e s m args below meth c s₁ B hml ?_ hv)
    exact vx_table (x := mY j) B (atoms_spec (ws := mWs j) B.pre _ (by unfold mWs; rw [mW_h hH]; exact List.mem_cons_self))
theorem a_mBlind {D : va_G} {cA : Nat → ClassId} {adK adV : Nat → Nat} {b : Nat} {sc : List Int32} {θ : Nat → Nat} {w : AW} {ags : List Value} {sz : Nat} : FrameBlind (a_mPc D cA adK adV b sc θ w ags sz) := fun a U g mk q =>
  ⟨q.1, q.2.1, q.2.2.1, va_K.moved (u := U) (U := U.calling g mk a) (Vm.Alike.refl U.vm) q.2.2.2.1, q.2.2.2.2.1, a_Env.warm (s := U) (U := U.calling g mk a) (State.WarmedH.refl U) q.2.2.2.2.2⟩
section ACL
variable {p : Program} {l : Launch} {e : Env} {R : Room} {s : State} {m : MethodId} {args : Array Value} {below : List Frame} {meth : Method} {c : Code} {H : Heap} {locs : List Loc} {Q : State → Prop}
variable {adK adV : Nat → Nat} {b : Nat} {sc : List Int32} {D : va_G} {cA : Nat → ClassId} {A : Nat → Prop} {θ : Nat → Nat} {w : AW} {ls : AL} {st : List Value} {sl : Array Slot} {d k pc len nc ns : Nat} {N : AN}
theorem a_run {mc ms : Nat} {rest st0 : List Value} {Qa : State → Outcome → State → Prop} {XC : String → State → State → Prop} {free : Addr → Prop} (hr : vx_Run p l e R s m args below meth c H locs nc ns mc ms (F0 m pc sl st0) rest Qa XC free)
    (kk : ∀ (v : Option Value) (st₀ t : State) (L : List Loc), st₀.heap = H → s.vm.Alike t.vm → (∀ q ∈ L, free q.base) → Qa st₀ (.returned v) t → W p l e R s m args below meth c t.heap (locs ++ L) (nc + mc) (ns + ms) Q (F0 m (pc + 3) sl (v.toList ++ rest)))
    (kx : ∀ (E : String) (ce : Cell) (q : Addr) (st₀ t : State) (L : List Loc), st₀.heap = H → s.vm.Alike t.vm → (∀ z ∈ L, free z.base) → XC E st₀ t → t.heap[q]? = some ce → ce.vm = .none → s.vm.findClass E = some ce.cls → vx_W p l e R s m args below meth c t.heap (locs ++ L) (nc + mc) (ns + ms) Q (F0 m pc sl rest) q) :
    W p l e R s m args below meth c H locs nc ns Q (F0 m pc sl st0) := by
  intro T hT X
  rcases hr T hT X with ⟨v, st₀, t, T', L, h0, X', hL, e1, e2, hq, st1⟩ | ⟨q, st₀, t, T', L, E, ce, h0, X', hL, e1, e2, hq, hce, hcv, hcl, st1⟩
  · obtain ⟨t2, a1, b1⟩ := kk v st₀ t L h0 (by rw [← e2]; exact X'.warmed.alike) hL hq T' e1 X'
    exact ⟨t2, st1 t2 a1, b1⟩
  · obtain ⟨t2, a1, b1⟩ := kx E ce q st₀ t L h0 (by rw [← e2]; exact X'.warmed.alike) hL hq hce hcv hcl T' e1 X'
    exact ⟨t2, st1.trans a1, b1⟩
theorem a_runOf {mc ms : Nat} {rest st0 : List Value} {Qa : State → Outcome → State → Prop} {XC : String → State → State → Prop} {free : Addr → Prop} (hr : va_Run p l e R s m args below meth c H locs nc ns mc ms (F0 m pc sl st0) rest Qa free) : vx_Run p l e R s m args below meth c H locs nc ns mc ms (F0 m pc sl st0) rest Qa XC free := fun T hT X => Or.inl (hr T hT X)
theorem a_metOf {y : MethodName} {ws : List Cond} {rm : Room} {Pc : Array Value → State → Prop} {Qc : Array Value → State → Outcome → State → Prop} {XC : String → State → State → Prop} {mc ms : Nat} {free : Addr → Prop} (h : vx_Met l y ws rm Pc Qc XC mc ms free) (hx : ∀ E s t, ¬ XC E s t) : Met l y ws rm Pc Qc mc ms free := by
  intro p e ha hc hk s m args below hf happ hP hK
  obtain ⟨n, o, h1, h2, h3, h4⟩ := h p e ha hc hk s m args below hf happ hP hK
  refine ⟨n, o, h1, h2, h3, ?_⟩
  rcases h4 with h4 | ⟨q, -, E, ce, L, hxx, -⟩
  · exact h4
  · exact absurd hxx (hx _ _ _)
/-- the world that is handed to a callee lies where the caller may write -/
theorem a_sub (hX : a_X adK adV b sc D cA A p l R s m args meth c d k) (hI : a_I D cA adK b A s H locs θ w) : ∀ q, va_A (a_C cA θ w) H.size q → A q := by
  intro q hq
  rcases hq with ⟨i, e9, hi⟩ | hq
  · exact hI.2.1.2 i _ hi
  · exact hX.aA q (Nat.le_trans hI.2.2.1.1 hq)
theorem a_pre (hX : a_X adK adV b sc D cA A p l R s m args meth c d k) (hI : a_I D cA adK b A s H locs θ w) {ags : List Value} {U : State} (hU : U.heap = H) (hW : s.WarmedH U.vm) : a_mPc D cA adK adV b sc θ w ags H.size (ags.map (a_V θ)).toArray U := by
  refine ⟨rfl, by rw [hU], by rw [hU]; exact hI.1, va_K.moved hW.alike hX.K, hI.2.1.weaken (fun _ _ _ _ => trivial), ?_⟩
  rw [hU]
  exact ((hX.E.kept hI.2.2.1.1 hI.2.2.1.2.1).narrow (a_sub hX hI)).warm hW
theorem a_recv (hX : a_X adK adV b sc D cA A p l R s m args meth c d k) (hI : a_I D cA adK b A s H locs θ w) {a cj : Nat} {fs : List Value} (hw : w[a]? = some (.inr (cj, fs))) : cj < 9 ∧ ∃ cellB : Cell, H[θ a]? = some cellB ∧ cellB.vm.isStatics = false ∧ s.vm.findClass (RN cj) = some cellB.cls := by
  have h1 := hI.1 a _ (a_C_get hw)
  obtain ⟨r, hr, -⟩ := h1
  have h2 : cj < 9 := (List.getElem?_eq_some_iff.mp hr).1
  exact ⟨h2, va_recv hX.K hI.1 (a_vw h2) (a_C_get hw)⟩
/-- the world behind a call -/
theorem a_back (hX : a_X adK adV b sc D cA A p l R s m args meth c d k) (hI : a_I D cA adK b A s H locs θ w) {st₀ t : State} {L : List Loc} {θ' : Nat → Nat} {w' : AW} (h0 : st₀.heap = H) (hL : ∀ q ∈ L, va_A (a_C cA θ w) H.size q.base) (hJ : a_J D cA adK b (va_A (a_C cA θ w) H.size) t.heap θ' w') (hF : va_F (va_A (a_C cA θ w) H.size) st₀ t) : a_I D cA adK b A s t.heap (locs ++ L) θ' w' := by
  obtain ⟨-, -, k3⟩ := vx_keep (T' := t) h0 rfl hI.2.2.1 (fun q _ h => a_sub hX hI q h) (fun q h => a_sub hX hI q h) hL hF
  exact ⟨hJ.1, hJ.2.1.weaken (fun _ q _ h => a_sub hX hI q.1 h), k3, hJ.2.2⟩
/-- a handler of the law's own takes the exception -/
theorem a_hc_ok (hX : a_X adK adV b sc D cA A p l R s m args meth c d k) {h : Nat} {z : Int32} {q : Nat} (hz : a_hc k h = some z) (hlv : ∃ lv, lv_has sl (mX k) lv)
    (K : ∀ (pc' : Nat) (sl' : Array Slot), mLk k pc' = some (.ireturn, 1) → mR k = some .int → W p l e R s m args below meth c H locs nc ns Q (F0 m pc' sl' [.int z])) : W p l e R s m args below meth c H locs nc ns Q (F0 m h sl [.ref q]) := by
  obtain ⟨⟨hx, hb, hml, hown, hts⟩, -⟩ := id hX
  obtain ⟨lv, hlv⟩ := hlv
  unfold a_hc at hz
  split at hz
  · rename_i hR
    split at hz
    · rename_i n hd1
      split at hz
      · rename_i hn
        split at hz
        · rename_i v hd2 hd3
          cases hz
          refine lv_astore_n hx hb (a_dec1 hX.kN hd1 rfl) rfl hlv hn rfl (fun sl' hl' => ?_)
          refine lv_iconst hx hb (a_dec1 hX.kN hd2 rfl) rfl ?_
          exact K _ sl' hd3 hR
        · cases hz
      · cases hz
    · rename_i n hd1
      split at hz
      · rename_i hn
        split at hz
        · rename_i v hd2 hd3
          cases hz
          refine lv_astore hx hb (a_dec1 hX.kN hd1 rfl) hlv hn rfl (fun sl' hl' => ?_)
          refine lv_iconst hx hb (a_dec1 hX.kN hd2 rfl) rfl ?_
          exact K _ sl' hd3 hR
        · cases hz
      · cases hz
    · cases hz
  · cases hz
theorem a_castW (hX : a_X adK adV b sc D cA A p l R s m args meth c d k) {v : Nat} (hv : v = 100 ∨ v = 101) : (Cond.castable (xNm v) (xNm v)).before args s = true := by
  have h := hX.E.2.2.2.2.2.2.1
  refine va_Nw.use rfl (h _ (List.mem_append_right _ (List.mem_append_left _ ?_)))
  rcases hv with rfl | rfl <;> simp
theorem a_linkW (hX : a_X adK adV b sc D cA A p l R s m args meth c d k) {ct v : Nat} (h : a_lk (kX (mK k)) ct = some v) : (Cond.classLink (RN (mK k)) ct (xNm v)).before args s = true := hX.1.2.2.2.2 _ (a_inKX hX.kc (a_lk_mem h))
theorem a_hnd_ok (hX : a_X adK adV b sc D cA A p l R s m args meth c d k) {v : Nat} {z : Int32} {q : Nat} {ce : Cell} {rest : List Value} (hz : a_hnd k pc v = some z) (hlv : ∃ lv, lv_has sl (mX k) lv) (hce : H[q]? = some ce) (hcv : ce.vm = .none) (hcl : s.vm.findClass (xNm v) = some ce.cls)
    (K : ∀ (pc' : Nat) (sl' : Array Slot), mLk k pc' = some (.ireturn, 1) → mR k = some .int → W p l e R s m args below meth c H locs nc ns Q (F0 m pc' sl' [.int z])) : vx_W p l e R s m args below meth c H locs nc ns Q (F0 m pc sl rest) q := by
  obtain ⟨⟨hx, hb, hml, hown, hts⟩, -, -, -, htab, -⟩ := id hX
  unfold a_hnd at hz
  split at hz
  · rename_i hv
    split at hz
    · rename_i f t h ct hH
      rw [hH] at htab
      split at hz
      · rename_i h1
        obtain ⟨⟨h2, h3⟩, h4, h5⟩ := h1
        exact vx_catch (name := xNm v) hown [] ⟨f, t, h, ct⟩ [] htab (fun _ q9 => nomatch q9) (by simp [covers, h2, h3]) h4 (a_linkW hX h5) (a_castW hX hv) hce hcv hcl (a_hc_ok hX hz hlv K)
      · cases hz
    · rename_i f t h ct f2 t2 h2 ct2 hH
      rw [hH] at htab
      split at hz
      · rename_i h1
        obtain ⟨⟨g2, g3⟩, g4, g5⟩ := h1
        exact vx_catch (name := xNm v) hown [] ⟨f, t, h, ct⟩ [⟨f2, t2, h2, ct2⟩] htab (fun _ q9 => nomatch q9) (by simp [covers, g2, g3]) g4 (a_linkW hX g5) (a_castW hX hv) hce hcv hcl (a_hc_ok hX hz hlv K)
      · split at hz
        · rename_i h1
          obtain ⟨⟨⟨rfl, g4⟩, g5⟩, ⟨g2, g3⟩, g6, g7⟩ := h1
          refine vx_catch (name := xNm 101) hown [⟨f, t, h, ct⟩] ⟨f2, t2, h2, ct2⟩ [] htab (fun z9 q9 => ?_) (by simp [covers, g2, g3]) g6 (a_linkW hX g7) (a_castW hX hv) hce hcv hcl (a_hc_ok hX hz hlv K)
          rw [List.mem_singleton] at q9
          subst q9
          exact Or.inr ⟨g4, xNm 100, a_linkW hX g5, hX.E.2.2.2.2.2.1⟩
        · cases hz
    · cases hz
  · cases hz
end ACL
