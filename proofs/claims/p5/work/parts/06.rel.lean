abbrev vwCl : List vw_C := [(RX0, TX0, 6), (RX1, TX1, 5), (RX2, TX2, 13), (RX3, TX3, 5), (RX4, TX4, 2), (RX5, TX5, 6), (RX6, TX6, 1), (RX7, TX7, 14), (RX8, TX8, 53)]
/-! ===== how the abstract machine's cells lie in the heap ===== -/
noncomputable def a_V (θ : Nat → Nat) : Value → Value
  | .ref a => .ref (θ a)
  | v => v
theorem a_V_cat (θ : Nat → Nat) (v : Value) : (a_V θ v).category = v.category := by cases v <;> rfl
theorem a_cat_V (θ : Nat → Nat) (st : List Value) : a_cat (st.map (a_V θ)) = a_cat st := by
  unfold a_cat
  rw [List.map_map]
  congr 1
  exact List.map_congr_left fun v _ => a_V_cat θ v
noncomputable def a_E (cA : Nat → ClassId) (θ : Nat → Nat) : AE → va_E
  | .inl (t, .inl l) => .inl (cA t, l.length, .inl (fun i => l.getD i 0))
  | .inl (t, .inr l) => .inl (cA t, l.length, .inr (.inl (fun i => l.getD i 0)))
  | .inr (c, fs) => .inr (c, fs.map (a_V θ))
noncomputable def a_C (cA : Nat → ClassId) (θ : Nat → Nat) (w : AW) : va_W := w.mapIdx (fun k e => (θ k, a_E cA θ e))
theorem a_C_len {cA : Nat → ClassId} {θ : Nat → Nat} {w : AW} : (a_C cA θ w).length = w.length := by simp [a_C]
theorem a_C_at {cA : Nat → ClassId} {θ : Nat → Nat} {w : AW} (k : Nat) : (a_C cA θ w)[k]? = (w[k]?).map (fun e => (θ k, a_E cA θ e)) := by
  simp [a_C, List.getElem?_mapIdx]
theorem a_C_get {cA : Nat → ClassId} {θ : Nat → Nat} {w : AW} {k : Nat} {e : AE} (h : w[k]? = some e) : (a_C cA θ w)[k]? = some (θ k, a_E cA θ e) := by
  rw [a_C_at, h]; rfl
theorem a_C_set {cA : Nat → ClassId} {θ : Nat → Nat} {w : AW} {k : Nat} {e : AE} : a_C cA θ (w.set k e) = (a_C cA θ w).set k (θ k, a_E cA θ e) := by
  apply List.ext_getElem?
  intro i
  rw [a_C_at, List.getElem?_set, List.getElem?_set, a_C_len, a_C_at]
  by_cases hk : k = i
  · subst hk
    by_cases hl : k < w.length
    · simp [hl]
    · simp [hl]
  · simp [hk]
theorem a_C_push {cA : Nat → ClassId} {θ : Nat → Nat} {w : AW} {e : AE} : a_C cA θ (w ++ [e]) = a_C cA θ w ++ [(θ w.length, a_E cA θ e)] := by
  simp [a_C, List.mapIdx_append]
/-- a reference is known: to a cell, or to what stands apart -/
noncomputable def a_rk (n : Nat) (v : Value) : Prop := ∀ a : Nat, v = .ref a → a < n ∨ a_SC ≤ a
theorem a_rk_int {n : Nat} (x : Int32) : a_rk n (.int x) := fun _ h => by cases h
theorem a_rk_long {n : Nat} (x : Int64) : a_rk n (.long x) := fun _ h => by cases h
theorem a_rk_null {n : Nat} : a_rk n .null := fun _ h => by cases h
theorem a_rk_ref {n a : Nat} (h : a < n ∨ a_SC ≤ a) : a_rk n (.ref a) := fun _ e => by cases e; exact h
theorem a_rk_mono {n n' : Nat} {v : Value} (h : a_rk n v) (hn : n ≤ n') : a_rk n' v := fun a e => (h a e).elim (fun q => Or.inl (Nat.lt_of_lt_of_le q hn)) Or.inr
noncomputable def a_ex (n : Nat) (θ θ' : Nat → Nat) : Prop := ∀ x : Nat, x < n ∨ a_SC ≤ x → θ' x = θ x
theorem a_ex_rf {n : Nat} {θ : Nat → Nat} : a_ex n θ θ := fun _ _ => rfl
theorem a_ex_tr {n n' : Nat} {θ θ' θ'' : Nat → Nat} (h : a_ex n θ θ') (h' : a_ex n' θ' θ'') (hn : n ≤ n') : a_ex n θ θ'' := fun x hx => by
  rw [h' x (hx.elim (fun q => Or.inl (Nat.lt_of_lt_of_le q hn)) Or.inr), h x hx]
theorem a_V_ex {n : Nat} {θ θ' : Nat → Nat} {v : Value} (h : a_ex n θ θ') (hv : a_rk n v) : a_V θ' v = a_V θ v := by
  cases v with
  | ref a => show Value.ref (θ' a) = Value.ref (θ a); rw [h a (hv a rfl)]
  | _ => rfl
theorem a_Vs_ex {n : Nat} {θ θ' : Nat → Nat} {vs : List Value} (h : a_ex n θ θ') (hv : ∀ v ∈ vs, a_rk n v) : vs.map (a_V θ') = vs.map (a_V θ) :=
  List.map_congr_left fun v hq => a_V_ex h (hv v hq)
noncomputable def a_wf (n : Nat) (w : AW) : Prop := ∀ (k c : Nat) (fs : List Value), w[k]? = some (.inr (c, fs)) → ∀ v ∈ fs, a_rk n v
theorem a_C_ex {cA : Nat → ClassId} {θ θ' : Nat → Nat} {w : AW} (h : a_ex w.length θ θ') (hw : a_wf w.length w) : a_C cA θ' w = a_C cA θ w := by
  apply List.ext_getElem?
  intro i
  rw [a_C_at, a_C_at]
  cases hi : w[i]? with
  | none => rfl
  | some e =>
    have hl : i < w.length := (List.getElem?_eq_some_iff.mp hi).1
    have e2 : a_E cA θ' e = a_E cA θ e := by
      rcases e with ⟨t, l | l⟩ | ⟨c, fs⟩
      · rfl
      · rfl
      · show Sum.inr (c, fs.map (a_V θ')) = Sum.inr (c, fs.map (a_V θ))
        rw [a_Vs_ex h (hw i c fs hi)]
    simp [h i (Or.inl hl), e2]
theorem a_wf_set {w : AW} {k : Nat} {e : AE} (hw : a_wf w.length w) (he : ∀ (c : Nat) (fs : List Value), e = .inr (c, fs) → ∀ v ∈ fs, a_rk w.length v) : a_wf (w.set k e).length (w.set k e) := by
  intro i c fs hi v hv
  rw [List.length_set]
  rw [List.getElem?_set] at hi
  by_cases hk : k = i
  · rw [if_pos hk] at hi
    split at hi
    · exact he c fs (Option.some.inj hi) v hv
    · cases hi
  · rw [if_neg hk] at hi
    exact hw i c fs hi v hv
theorem a_wf_push {w : AW} {e : AE} (hw : a_wf w.length w) (he : ∀ (c : Nat) (fs : List Value), e = .inr (c, fs) → ∀ v ∈ fs, a_rk (w.length + 1) v) : a_wf (w ++ [e]).length (w ++ [e]) := by
  intro i c fs hi v hv
  rw [List.length_append, List.length_singleton]
  rcases Nat.lt_or_ge i w.length with q | q
  · rw [List.getElem?_append_left q] at hi
    exact a_rk_mono (hw i c fs hi v hv) (Nat.le_succ _)
  · rw [List.getElem?_append_right q] at hi
    rcases Nat.eq_zero_or_pos (i - w.length) with z | z
    · rw [z] at hi
      exact he c fs (Option.some.inj hi) v hv
    · rw [List.getElem?_eq_none (by rw [List.length_singleton]; exact z)] at hi
      cases hi
noncomputable def a_ty (cA : Nat → ClassId) : List (ClassId × FieldType) := [(cA 0, .int), (cA 1, .byte), (cA 2, .long)]
/-- what stands apart from the world: the text constants, the statics that are read, the nest's words, the script -/
noncomputable def a_Env (adK adV : Nat → Nat) (b : Nat) (sc : List Int32) (A : Nat → Prop) (U : State) (H : Heap) : Prop :=
  (∀ i : Nat, i < sN → vk_R (RN (sC i)) (sP i) (sT i) (adK i) U ∧ vk_S 1 [(sB i).length] [sB i] (fun _ => adK i) (fun _ => adV i) A U H) ∧
  vx_Zq Bundle.tN "UNASSIGNED_STACK" Bundle.steD A U H ∧ vx_Zq Bundle.tN "SUPPRESSED_SENTINEL" Bundle.listD A U H ∧
  va_Z "java/lang/String" "COMPACT_STRINGS" "Z" (.int 1) A U H ∧ va_Zq "jdk/internal/util/Preconditions" "SIOOBE_FORMATTER" "Ljava/util/function/BiFunction;" A U H ∧
  va_Nc (xNm 101) (xNm 100) U ∧ (∀ w ∈ AWN, va_Nw w U) ∧
  va_X b sc.length (fun i => sc.getD i 0) U H ∧ b < H.size ∧ ¬ A b
theorem a_hw_warm {w : Cond} (h : a_hw w = true) {s U : State} (hW : s.WarmedH U.vm) (hZ : va_Nw w s) : va_Nw w U := by
  cases w with
  | methodLinkNest a i x h => exact va_Nw.warmM hW hZ
  | castable a b => exact va_Nw.warmC hW hZ
  | declares x => exact va_Nw.warmD hW hZ
  | _ => cases h
theorem a_Env.warm {adK adV : Nat → Nat} {b : Nat} {sc : List Int32} {A : Nat → Prop} {s U : State} {H : Heap} (hW : s.WarmedH U.vm) (h : a_Env adK adV b sc A s H) : a_Env adK adV b sc A U H := by
  obtain ⟨h1, h2, h3, h4, h5, h6, h9, h10, h11⟩ := h
  have hv := hW.alike
  exact ⟨fun i hi => ⟨vk_R.warm hW (h1 i hi).1, vk_S.moved hv (h1 i hi).2⟩, vx_Zq.moved hv h2, vx_Zq.moved hv h3, va_Z.moved hv h4, va_Zq.moved hv h5, va_Nc.moved hv h6, fun w hw => a_hw_warm (List.all_eq_true.mp AWN_hw w hw) hW (h9 w hw), va_X.moved hv h10, h11⟩
theorem a_Env.kept {adK adV : Nat → Nat} {b : Nat} {sc : List Int32} {A : Nat → Prop} {U : State} {H H1 : Heap} (h : a_Env adK adV b sc A U H) (hz : H.size ≤ H1.size) (hq : ∀ a : Nat, a < H.size → ¬ A a → H1[a]? = H[a]?) : a_Env adK adV b sc A U H1 := by
  obtain ⟨h1, h2, h3, h4, h5, h6, h9, h10, h11, h12⟩ := h
  exact ⟨fun i hi => ⟨(h1 i hi).1, (h1 i hi).2.kept hq⟩, h2.kept hq, h3.kept hq, h4.kept hq, h5.kept hq, h6, h9, h10.kept (hq b h11 h12), Nat.lt_of_lt_of_le h11 hz, h12⟩
theorem a_Env.narrow {adK adV : Nat → Nat} {b : Nat} {sc : List Int32} {A B : Nat → Prop} {U : State} {H : Heap} (h : a_Env adK adV b sc A U H) (hAB : ∀ q, B q → A q) : a_Env adK adV b sc B U H := by
  obtain ⟨h1, h2, h3, h4, h5, h6, h9, h10, h11, h12⟩ := h
  exact ⟨fun i hi => ⟨(h1 i hi).1, (h1 i hi).2.narrow hAB⟩, h2.narrow hAB, h3.narrow hAB, h4.narrow hAB, h5.narrow hAB, h6, h9, h10, h11, fun z => h12 (hAB _ z)⟩
/-- the world, where it lies now -/
noncomputable def a_I (D : va_G) (cA : Nat → ClassId) (adK : Nat → Nat) (b : Nat) (A : Nat → Prop) (s : State) (H : Heap) (locs : List Loc) (θ : Nat → Nat) (w : AW) : Prop :=
  va_P D vwCl (a_C cA θ w) H ∧ va_D A (a_C cA θ w) ∧ va_S A s.heap H locs ∧ a_wf w.length w ∧ w.length ≤ a_SC ∧ θ a_SC = b ∧ ∀ i : Nat, i < sN → θ (a_SB + i) = adK i
/-- the frame's own: its locals, its stack -/
noncomputable def a_F (θ : Nat → Nat) (w : AW) (n : Nat) (sl : Array Slot) (ls : AL) (st : List Value) : Prop :=
  lv_has sl n (ls.map fun q => (q.1, a_V θ q.2)) ∧ (∀ q ∈ ls, a_rk w.length q.2) ∧ ∀ v ∈ st, a_rk w.length v
/-- the room for d more calls -/
noncomputable def a_lo (d : Nat) : Nat := 100 * d + 300
noncomputable def a_X (adK adV : Nat → Nat) (b : Nat) (sc : List Int32) (D : va_G) (cA : Nat → ClassId) (A : Nat → Prop) (p : Program) (l : Launch) (R : Room) (s : State) (m : MethodId) (args : Array Value) (meth : Method) (c : Code) (d k : Nat) : Prop :=
  (p.tables.exec = Jvm.exec ∧ c.code = mB k ∧ c.maxLocals = mX k ∧ s.vm.findClass (RN (mK k)) = some m.cls ∧ (∀ w ∈ ALLW, w.before args s = true)) ∧ meth.locks = false ∧ l.stackTraces = false ∧ (mD k = 2 → meth.name = "<init>") ∧ c.exceptionTable.toList = tableOf (mH k) ∧
  va_K D vwCl (a_ty cA) s ∧ a_Env adK adV b sc A s s.heap ∧ (∀ q : Nat, s.heap.size ≤ q → A q) ∧ d ≤ R.frames ∧ a_lo d ≤ R.locals ∧ k < mN
theorem a_s1_map (θ : Nat → Nat) (ls : AL) (i : Nat) (v : Value) : (i, a_V θ v) :: (ls.map fun q => (q.1, a_V θ q.2)).filter (fun q => !(q.1 == i) && !(q.1 + 1 == i && q.2.category == 2)) = (a_s1 ls i v).map fun q => (q.1, a_V θ q.2) := by
  simp [a_s1, List.filter_map, Function.comp_def, a_V_cat]
theorem a_s2_map (θ : Nat → Nat) (ls : AL) (i : Nat) (v : Value) : (i, a_V θ v) :: (ls.map fun q => (q.1, a_V θ q.2)).filter (fun q => !(q.1 == i) && (!(q.1 == i + 1) && !(q.1 + 1 == i && q.2.category == 2))) = (a_s2 ls i v).map fun q => (q.1, a_V θ q.2) := by
  simp [a_s2, List.filter_map, Function.comp_def, a_V_cat]
theorem a_s1_ok {n : Nat} {ls : AL} {i : Nat} {v : Value} (h : ∀ q ∈ ls, a_rk n q.2) (hv : a_rk n v) : ∀ q ∈ a_s1 ls i v, a_rk n q.2 := by
  intro q hq
  rcases List.mem_cons.mp hq with rfl | hq
  · exact hv
  · exact h q (List.mem_filter.mp hq).1
theorem a_s2_ok {n : Nat} {ls : AL} {i : Nat} {v : Value} (h : ∀ q ∈ ls, a_rk n q.2) (hv : a_rk n v) : ∀ q ∈ a_s2 ls i v, a_rk n q.2 := by
  intro q hq
  rcases List.mem_cons.mp hq with rfl | hq
  · exact hv
  · exact h q (List.mem_filter.mp hq).1
theorem a_F.at {θ : Nat → Nat} {w : AW} {n : Nat} {sl : Array Slot} {ls : AL} {st : List Value} (h : a_F θ w n sl ls st) {i : Nat} {v : Value} (hv : a_lk ls i = some v) : sl[i]? = some (.val (a_V θ v)) :=
  h.1.2.2 (i, a_V θ v) (List.mem_map.mpr ⟨(i, v), a_lk_mem hv, rfl⟩)
theorem a_F.known {θ : Nat → Nat} {w : AW} {n : Nat} {sl : Array Slot} {ls : AL} {st : List Value} (h : a_F θ w n sl ls st) {i : Nat} {v : Value} (hv : a_lk ls i = some v) : a_rk w.length v := h.2.1 (i, v) (a_lk_mem hv)
theorem a_F.st {θ : Nat → Nat} {w : AW} {n : Nat} {sl : Array Slot} {ls : AL} {st st' : List Value} (h : a_F θ w n sl ls st) (h' : ∀ v ∈ st', a_rk w.length v) : a_F θ w n sl ls st' := ⟨h.1, h.2.1, h'⟩
theorem a_F.w {θ : Nat → Nat} {w w' : AW} {n : Nat} {sl : Array Slot} {ls : AL} {st : List Value} (h : a_F θ w n sl ls st) (e : w'.length = w.length) : a_F θ w' n sl ls st := ⟨h.1, by rw [e]; exact h.2.1, by rw [e]; exact h.2.2⟩
/-- .. seen with the addresses of later -/
theorem a_F.ex {θ θ' : Nat → Nat} {w w' : AW} {n : Nat} {sl : Array Slot} {ls : AL} {st : List Value} (h : a_F θ w n sl ls st) (e : a_ex w.length θ θ') (hl : w.length ≤ w'.length) : a_F θ' w' n sl ls st := by
  refine ⟨?_, fun q hq => a_rk_mono (h.2.1 q hq) hl, fun v hv => a_rk_mono (h.2.2 v hv) hl⟩
  have e1 : (ls.map fun q => (q.1, a_V θ' q.2)) = ls.map fun q => (q.1, a_V θ q.2) := List.map_congr_left fun q hq => by rw [a_V_ex e (h.2.1 q hq)]
  rw [e1]
  exact h.1
/-! facts of the tables -/
theorem a_vw {c : Nat} (h : c < 9) : vwCl[c]? = some (RN c, TF c, NF c) := by
  match c, h with
  | 0, _ => rfl
  | 1, _ => rfl
  | 2, _ => rfl
  | 3, _ => rfl
  | 4, _ => rfl
  | 5, _ => rfl
  | 6, _ => rfl
  | 7, _ => rfl
  | 8, _ => rfl
theorem a_tyF {c : Nat} (h : c < 9) : ∀ k : Nat, k < NF c → parseFieldDescriptor (TF c k).2.2.1 = some (YF c k) := by
  match c, h with
  | 0, _ => exact tyX0_ok
  | 1, _ => exact tyX1_ok
  | 2, _ => exact tyX2_ok
  | 3, _ => exact tyX3_ok
  | 4, _ => exact tyX4_ok
  | 5, _ => exact tyX5_ok
  | 6, _ => exact tyX6_ok
  | 7, _ => exact tyX7_ok
  | 8, _ => exact tyX8_ok
theorem a_nmF {c : Nat} (h : c < 9) : ∀ a : Nat, a < NF c → ∀ b : Nat, b < NF c → a ≠ b → (TF c a).2.1 ≠ (TF c b).2.1 := by
  match c, h with
  | 0, _ => exact nmX0
  | 1, _ => exact nmX1
  | 2, _ => exact nmX2
  | 3, _ => exact nmX3
  | 4, _ => exact nmX4
  | 5, _ => exact nmX5
  | 6, _ => exact nmX6
  | 7, _ => exact nmX7
  | 8, _ => exact nmX8
theorem a_inC : ∀ w ∈ AWC, w ∈ ALLW := fun _ h => List.mem_append_right _ (List.mem_append_right _ (List.mem_append_right _ (List.mem_append_left _ h)))
theorem a_inK : ∀ w ∈ AWK, w ∈ ALLW := fun _ h => List.mem_append_right _ (List.mem_append_right _ (List.mem_append_right _ (List.mem_append_right _ (List.mem_append_left _ h))))
theorem a_inB : ∀ w ∈ AWB, w ∈ ALLW := fun _ h => List.mem_append_right _ (List.mem_append_right _ (List.mem_append_right _ (List.mem_append_right _ (List.mem_append_right _ (List.mem_append_left _ h)))))
theorem a_inJ : ∀ w ∈ AWJ, w ∈ ALLW := fun _ h => List.mem_append_right _ (List.mem_append_right _ (List.mem_append_right _ (List.mem_append_right _ (List.mem_append_right _ (List.mem_append_right _ (List.mem_append_left _ h))))))
theorem a_inX : ∀ w ∈ AWX, w ∈ ALLW := fun _ h => List.mem_append_right _ (List.mem_append_right _ (List.mem_append_right _ (List.mem_append_right _ (List.mem_append_right _ (List.mem_append_right _ (List.mem_append_right _ h))))))
theorem a_inU {c : Nat} (h : c < 9) : ∀ w ∈ u_ws (RN c) (TF c) (NF c), w ∈ ALLW := fun w hw => a_inC _ (List.mem_append_right _ (List.mem_flatMap.mpr ⟨c, List.mem_range.mpr h, List.mem_cons_of_mem _ hw⟩))
theorem a_inI {c : Nat} (h : c < 10) : Cond.initialized (RN c) ∈ ALLW := a_inC _ (List.mem_append_left _ (List.mem_map.mpr ⟨c, List.mem_range.mpr h, rfl⟩))
theorem a_inN {c : Nat} (h : c < 9) : Cond.instantiable (RN c) (NF c) ∈ ALLW := a_inC _ (List.mem_append_right _ (List.mem_flatMap.mpr ⟨c, List.mem_range.mpr h, List.mem_cons_self⟩))
theorem a_inF {c : Nat} (h : c < 10) {q : Nat × Nat × Nat} (hq : q ∈ kF c) : wF c q ∈ ALLW := List.mem_append_left _ (List.mem_flatMap.mpr ⟨c, List.mem_range.mpr h, List.mem_map.mpr ⟨q, hq, rfl⟩⟩)
theorem a_inM {c : Nat} (h : c < 10) {q : Nat × Nat × Nat} (hq : q ∈ kM c) (ht : ¬ q.2.1 = 1) : wM c q ∈ ALLW := List.mem_append_right _ (List.mem_append_left _ (List.mem_flatMap.mpr ⟨c, List.mem_range.mpr h, List.mem_map.mpr ⟨q, List.mem_filter.mpr ⟨hq, by
  cases hb : Nat.beq q.2.1 1 with
  | true => exact absurd (Nat.eq_of_beq_eq_true hb) ht
  | false => rfl⟩, rfl⟩⟩))
theorem a_inMN {c : Nat} (h : c < 10) {q : Nat × Nat × Nat} (hq : q ∈ kM c) (ht : q.2.1 = 1) : wM c q ∈ AWN := List.mem_append_left _ (List.mem_flatMap.mpr ⟨c, List.mem_range.mpr h, List.mem_map.mpr ⟨q, List.mem_filter.mpr ⟨hq, by rw [ht]; rfl⟩, rfl⟩⟩)
theorem a_inKX {c : Nat} (h : c < 10) {q : Nat × Nat} (hq : q ∈ kX c) : wX c q ∈ ALLW := a_inK _ (List.mem_flatMap.mpr ⟨c, List.mem_range.mpr h, List.mem_append_left _ (List.mem_map.mpr ⟨q, hq, rfl⟩)⟩)
theorem a_inKI {c : Nat} (h : c < 10) {q : Nat × Int32} (hq : q ∈ kI c) : wI c q ∈ ALLW := a_inK _ (List.mem_flatMap.mpr ⟨c, List.mem_range.mpr h, List.mem_append_right _ (List.mem_append_left _ (List.mem_map.mpr ⟨q, hq, rfl⟩))⟩)
theorem a_inKL {c : Nat} (h : c < 10) {q : Nat × Int64} (hq : q ∈ kL c) : wL c q ∈ ALLW := a_inK _ (List.mem_flatMap.mpr ⟨c, List.mem_range.mpr h, List.mem_append_right _ (List.mem_append_right _ (List.mem_map.mpr ⟨q, hq, rfl⟩))⟩)
theorem a_inDW {k : Nat} (h : k + 1 < mN) : ∀ w ∈ wD k, w ∈ ALLW := fun w hw => List.mem_append_right _ (List.mem_append_right _ (List.mem_append_left _ (a_inD (by unfold mN at h; omega) w hw)))
theorem kF_ok : ((List.range 10).all fun c => (kF c).all fun q => decide (q.2.1 < 9) && (decide (q.2.2 < NF q.2.1) && decide ((TF q.2.1 q.2.2).1 = RN q.2.1))) = true := by decide +kernel
theorem a_kF {c x : Nat} {q : Nat × Nat} (hc : c < 10) (h : a_lk (kF c) x = some q) : (q.1 < 9 ∧ q.2 < NF q.1 ∧ (TF q.1 q.2).1 = RN q.1) ∧ wF c (x, q) ∈ ALLW := by
  have hm := a_lk_mem h
  refine ⟨?_, a_inF hc hm⟩
  have h1 := List.all_eq_true.mp (List.all_eq_true.mp kF_ok c (List.mem_range.mpr hc)) _ hm
  simpa using h1
theorem mPb_f {k : Nat} (h : k < mN) : (∀ q ∈ mC k, a_lenOk q.2.1 q.2.2 = true) ∧ plainName (mY k).cls = true ∧ (mY k).cls = RN (mK k) ∧ (parseMethodDescriptor (mY k).desc).map (fun d => d.parameters.length) = some (mV k) ∧ mX k ≤ 60 ∧ ((mY k).cls ≠ "java/lang/invoke/MethodHandle" ∧ (mY k).cls ≠ "java/lang/invoke/VarHandle") ∧ mK k < 10 ∧ (mD k = 2 ↔ (mY k).name = "<init>") ∧ (mD k = 2 → mR k = none) := by
  have h1 := mPb_ok h
  unfold mPb at h1
  simp only [Bool.and_eq_true, List.all_eq_true, decide_eq_true_eq] at h1
  obtain ⟨q1, q2, q3, q4, q5, q6, q7, q8, q9⟩ := h1
  refine ⟨q1, q2, q3, q4, q5, q6, q7, ?_, fun z => ?_⟩
  · have := eq_of_beq q8
    exact decide_eq_decide.mp this
  · simpa [z] using q9
theorem a_dec {k pc len : Nat} {i : Instr} (h : k < mN) (hd : mLk k pc = some (i, len)) : decode (mB k) pc = .ok (i, len) := by
  have h1 := mPd_ok h
  unfold mPd at h1
  have h2 := List.all_eq_true.mp h1 (pc, i, len) (mLk_mem hd)
  exact of_decide_eq_true h2
theorem a_declen {k pc len : Nat} {i : Instr} (h : k < mN) (hd : mLk k pc = some (i, len)) : a_lenOk i len = true := (mPb_f h).1 (pc, i, len) (mLk_mem hd)
/-- the decoded row of an instruction that is no switch -/
theorem a_dec1 {k pc len n : Nat} {i : Instr} (h : k < mN) (hd : mLk k pc = some (i, len)) (hi : a_lenOk i len = Nat.beq len n) : decode (mB k) pc = .ok (i, n) := by
  have h1 := a_declen h hd
  rw [hi] at h1
  have h2 : len = n := Nat.eq_of_beq_eq_true h1
  rw [← h2]
  exact a_dec h hd
