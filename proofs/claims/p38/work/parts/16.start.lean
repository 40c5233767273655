/-! THE CLAIM OUT OF ONE WALK OF THE LAW'S BODY. Your part is whole_start (and what it stands on); all else here is the same for every law, but numbers. -/
noncomputable def R_law : String := "SnuffMillLaw"
noncomputable def lw_P (b : Addr) (xs : List Int32) (args : Array Value) (s : State) : Prop := args = #[.ref b] ∧ s.IntsAt b xs ∧ xs.length ≤ 4096 ∧ (Jvm.Cond.and given_1 narrow_1).before args s = true
noncomputable def lw_Q (_ : Array Value) (s : State) (o : Outcome) (t : State) : Prop := o = .returned (some (.int 1)) ∧ Framed s o t [] 601024 7293033
noncomputable def lw_Z (below : List Frame) (a : Array Value) (s : State) : State → Prop := fun t => ∃ o, t.status = .running ∧ Ended t below o ∧ lw_Q a s o t
/-- the law's own end, with 1 on the stack, nothing written that was there before, its room as the claim has it -/
theorem lw_ret {p : Program} {l : Launch} {e : Env} {s : State} {m : MethodId} {below : List Frame} {meth : Method} {c : Code} {b : Nat} (hx : p.tables.exec = Jvm.exec) (hb : c.code = code) (hr : meth.sig.returnType = ret) (hlocks : meth.locks = false) {pc : Nat} {H : Heap} {ls : Array Slot} (hdg : decode code pc = .ok (.ireturn, 1)) : W p l e room_1 s m #[Value.ref b] below meth c H [] 601024 7293033 (lw_Z below #[Value.ref b] s) (F0 m pc ls [.int 1]) := by
  intro T hT X
  obtain ⟨fs, hret, hrun, hended, hW, hframe⟩ := X.leave (v := some (.int 1)) (hlocks := hlocks) (fun h => by rw [hr] at h; cases h)
  have hmeth' : T.vm.method? m = some meth := X.method'
  refine ⟨T.setFrames fs, ?_, .returned (some (.int 1)), hrun, hended, rfl, ⟨_, rfl⟩, hW, hframe⟩
  jvm_step X.here [X.here.top, hx, hb, hdg, hmeth', hr, ret, narrow_b1]
  (try refine ⟨rfl, ?_⟩); (try refine ⟨rfl, ?_⟩)
  first | (intro acts; rw [hret _ acts rfl rfl rfl]) | rw [hret _ _ rfl rfl rfl]
  exact Steps.refl _
/-- what holds at the law's entry: the machine, the code, the tables' words (any of lw_tbl by 'hts w (by decide +kernel)'), the script of L ints xs at the cell b, what the Statement gives of the start (any of its parts by flat_of_before) -/
noncomputable def lw_At (p : Program) (s : State) (m : MethodId) (meth : Method) (c : Code) (b L : Nat) (xs : Nat → Int32) : Prop :=
  p.tables.exec = Jvm.exec ∧ c.code = code ∧ meth.sig.returnType = ret ∧ c.maxLocals = 8 ∧ s.vm.findClass R_law = some m.cls ∧ (∀ w ∈ lw_tbl, w.before #[Value.ref b] s = true) ∧ va_X b L xs s s.heap ∧ b < s.heap.size ∧ meth.locks = false ∧ (Jvm.Cond.and given_1 narrow_1).before #[Value.ref b] s = true ∧ ∀ x ∈ c.exceptionTable.toList, False
/-! ===== the entry: what the tables and the start give ===== -/
noncomputable def a_nW (i : Nat) : List Cond := [.exactly (.string (RN (sC i)) (sP i)) "java/lang/String", .eq (.field (.string (RN (sC i)) (sP i)) "java/lang/String" "coder" "B") (.int 0), .arrayOf (.field (.string (RN (sC i)) (sP i)) "java/lang/String" "value" "[B") .byte, .eq (.length (.field (.string (RN (sC i)) (sP i)) "java/lang/String" "value" "[B")) (.int (Int32.ofNat (sB i).length))] ++
  (List.range (sB i).length).map fun j => .eq (.elem (.field (.string (RN (sC i)) (sP i)) "java/lang/String" "value" "[B") (.int (Int32.ofNat j))) (.int ((sB i).getD j 0))
noncomputable def a_nO : List Nat := [90, 95, 146, 151, 156, 161, 166, 173, 61, 85, 179, 224, 230, 236, 31, 242, 273, 280, 289, 298, 306, 315, 323, 331, 338, 348, 356, 363, 370, 377, 386, 394, 402, 411, 419, 427]
set_option maxRecDepth 100000 in
theorem a_nE_ok : ((List.range sN).all fun i => decide (a_nW i = ((flatC (Jvm.Cond.and given_1 narrow_1)).drop (a_nO.getD i 0)).take (4 + (sB i).length))) = true := by decide +kernel
theorem a_nW_ok {i : Nat} (hi : i < sN) : ∀ w ∈ a_nW i, w ∈ flatC (Jvm.Cond.and given_1 narrow_1) := by
  intro w hw
  rw [of_decide_eq_true (List.all_eq_true.mp a_nE_ok i (List.mem_range.mpr hi))] at hw
  exact List.mem_of_mem_drop (List.mem_of_mem_take hw)
set_option maxRecDepth 100000 in
theorem a_sR_ok : ((List.range sN).all fun i => decide (Cond.stringRef (RN (sC i)) (sP i) (sT i) ∈ lw_tbl)) = true := by decide +kernel
set_option maxRecDepth 100000 in
theorem a_st_ok : ([.laysStatic Bundle.tN "UNASSIGNED_STACK" Bundle.steD, .laysStatic Bundle.tN "SUPPRESSED_SENTINEL" Bundle.listD, .initialized Bundle.tN, .laysStatic "java/lang/String" "COMPACT_STRINGS" "Z", .initialized "java/lang/String", .laysStatic "jdk/internal/util/Preconditions" "SIOOBE_FORMATTER" "Ljava/util/function/BiFunction;", .initialized "jdk/internal/util/Preconditions"] : List Cond).all (fun w => decide (w ∈ lw_tbl)) = true := by decide +kernel
set_option maxRecDepth 100000 in
theorem a_gv_ok : ([.isRef (.static Bundle.tN "UNASSIGNED_STACK" Bundle.steD), .isRef (.static Bundle.tN "SUPPRESSED_SENTINEL" Bundle.listD), .eq (.static "java/lang/String" "COMPACT_STRINGS" "Z") (.int 1), .isRef (.static "jdk/internal/util/Preconditions" "SIOOBE_FORMATTER" "Ljava/util/function/BiFunction;"), .not (.castable (xNm 101) (xNm 100))] : List Cond).all (fun w => decide (w ∈ flatC (Jvm.Cond.and given_1 narrow_1))) = true := by decide +kernel
theorem a_arr {args : Array Value} {s : State} {ty : FieldType} (h : (Cond.arrayClass ty).before args s = true) (hp : ∀ C9, ty ≠ .object C9) : ∃ cA : ClassId, ArrOfT s cA ty ∧ va_RA s cA ty := by
  obtain ⟨cA, kA, comp, h1, h2, h3⟩ := Cond.arrayClass_spec h
  refine ⟨cA, fun n z => ⟨fun k h => (by cases h), kA, h2, comp, h3⟩, ?_⟩
  cases ty with
  | object C9 => exact absurd rfl (hp C9)
  | _ => exact h1
theorem a_choose {α : Type} [Inhabited α] {P : Nat → α → Prop} {n : Nat} (h : ∀ i, i < n → ∃ a, P i a) : ∃ f : Nat → α, ∀ i, i < n → P i (f i) := by
  have h0 : ∀ i, ∃ a, i < n → P i a := fun i => by
    by_cases hi : i < n
    · obtain ⟨a, ha⟩ := h i hi
      exact ⟨a, fun _ => ha⟩
    · exact ⟨default, fun h => absurd h hi⟩
  obtain ⟨f, hf⟩ := Classical.axiomOfChoice h0
  exact ⟨f, hf⟩
noncomputable def a_scr (L : Nat) (xs : Nat → Int32) : List Int32 := (List.range L).map xs
theorem a_scr_len {L : Nat} {xs : Nat → Int32} : (a_scr L xs).length = L := by simp [a_scr]
theorem a_scr_get {L : Nat} {xs : Nat → Int32} {j : Nat} (h : j < L) : (a_scr L xs).getD j 0 = xs j := by simp [a_scr, List.getD_eq_getElem?_getD, h]
set_option maxHeartbeats 4000000 in
/-- from the entry: what the abstract machine answers, the law answers -/
theorem a_start {p : Program} {e : Env} {s : State} {m : MethodId} {below : List Frame} {meth : Method} {c : Code} (l : Launch) (hflags : l.flags = flags0) {b L : Nat} {xs : Nat → Int32} (C0 : lw_At p s m meth c b L xs)
    {n nc ns : Nat} {w : AW} (hev : ev (a_scr L xs) n 100 296 0 [(0, .ref a_SC)] [] [] 0 0 = some (.inl (some (.int 1)), w, nc, ns)) (hnc : nc ≤ 601024) (hns : ns ≤ 7293033) :
    W p l e room_1 s m #[Value.ref b] below meth c s.heap [] 0 0 (lw_Z below #[Value.ref b] s) (entryFrame m ([Value.ref b] : List Value).toArray 8) := by
  obtain ⟨hx, hb, hr, hml, hown, hts, hX, hbl, hlocks, hgv, htab⟩ := id C0
  have hg := flat_of_before _ hgv
  have hA : ∀ a : Nat, a < s.heap.size → ¬ (fun q : Nat => s.heap.size ≤ q) a := fun a h => Nat.not_le.mpr h
  have hall : ∀ w ∈ ALLW, w.before #[Value.ref b] s = true := fun w hw => hts w (g_ALLW w hw).1
  have hst := List.all_eq_true.mp a_st_ok
  have hgs := List.all_eq_true.mp a_gv_ok
  have T : ∀ w ∈ ([.laysStatic Bundle.tN "UNASSIGNED_STACK" Bundle.steD, .laysStatic Bundle.tN "SUPPRESSED_SENTINEL" Bundle.listD, .initialized Bundle.tN, .laysStatic "java/lang/String" "COMPACT_STRINGS" "Z", .initialized "java/lang/String", .laysStatic "jdk/internal/util/Preconditions" "SIOOBE_FORMATTER" "Ljava/util/function/BiFunction;", .initialized "jdk/internal/util/Preconditions"] : List Cond), w.before #[Value.ref b] s = true := fun w hw => hts w (of_decide_eq_true (hst w hw))
  have G : ∀ w ∈ ([.isRef (.static Bundle.tN "UNASSIGNED_STACK" Bundle.steD), .isRef (.static Bundle.tN "SUPPRESSED_SENTINEL" Bundle.listD), .eq (.static "java/lang/String" "COMPACT_STRINGS" "Z") (.int 1), .isRef (.static "jdk/internal/util/Preconditions" "SIOOBE_FORMATTER" "Ljava/util/function/BiFunction;"), .not (.castable (xNm 101) (xNm 100))] : List Cond), w.before #[Value.ref b] s = true := fun w hw => hg w (of_decide_eq_true (hgs w hw))
  obtain ⟨f, hf⟩ := a_choose (α := ClassId × (Nat → Nat)) (P := fun i q => u_Kn s (RN i) (TF i) (NF i) q.1 q.2) (n := 9) (fun i hi => by
    obtain ⟨cC, iS, h⟩ := u_known (C := RN i) (T := TF i) (N := NF i) (n := NF i) hall (a_inU hi) (hall _ (a_inN hi))
    exact ⟨(cC, iS), h⟩)
  obtain ⟨c0, h0, h0'⟩ := a_arr (hall (.arrayClass .int) (a_inB _ (by simp [AWB]))) (fun _ h => nomatch h)
  obtain ⟨c1, h1, h1'⟩ := a_arr (hall (.arrayClass .byte) (a_inB _ (by simp [AWB]))) (fun _ h => nomatch h)
  obtain ⟨c2, h2, h2'⟩ := a_arr (hall (.arrayClass .long) (a_inB _ (by simp [AWB]))) (fun _ h => nomatch h)
  have hK : va_K (fun i => (f i).1, fun i => (f i).2) vwCl (a_ty fun k => match k with | 0 => c0 | 1 => c1 | _ => c2) s := by
    refine ⟨fun i q hq => ?_, fun k q hq => ?_⟩
    · have hi : i < 9 := (List.getElem?_eq_some_iff.mp hq).1
      rw [a_vw hi] at hq
      cases hq
      exact hf i hi
    · match k, hq with
      | 0, hq => cases hq; exact ⟨h0, h0'⟩
      | 1, hq => cases hq; exact ⟨h1, h1'⟩
      | 2, hq => cases hq; exact ⟨h2, h2'⟩
      | k + 3, hq => simp [a_ty] at hq
  generalize (fun k => match k with | 0 => c0 | 1 => c1 | _ => c2 : Nat → ClassId) = cA at hK
  obtain ⟨ad, had⟩ := a_choose (α := Nat × Nat) (P := fun i q => vk_R (RN (sC i)) (sP i) (sT i) q.1 s ∧ vk_S 1 [(sB i).length] [sB i] (fun _ => q.1) (fun _ => q.2) (fun q : Nat => s.heap.size ≤ q) s s.heap) (n := sN) (fun i hi => by
    have hw : ∀ w ∈ a_nW i, w.before #[Value.ref b] s = true := fun w hw => hg w (a_nW_ok hi w hw)
    have hR := hts _ (of_decide_eq_true (List.all_eq_true.mp a_sR_ok i (List.mem_range.mpr hi)))
    obtain ⟨adK, adV, hS, hE⟩ := vk_Sof (N := 1) (tm := fun _ => .string (RN (sC i)) (sP i)) (len := [(sB i).length]) (byt := [sB i]) (args := #[Value.ref b]) (s := s) (A := fun q : Nat => s.heap.size ≤ q)
      (fun k hk => by rw [show k = 0 by omega]; exact (a_sB hi).1) (fun _ _ => hw _ (by simp [a_nW])) (fun _ _ => hw _ (by simp [a_nW])) (fun _ _ => hw _ (by simp [a_nW]))
      (fun k hk => by rw [show k = 0 by omega]; exact hw _ (by simp [a_nW]))
      (fun k hk j hj => by
        rw [show k = 0 by omega] at hj ⊢
        exact hw _ (List.mem_append_right _ (List.mem_map.mpr ⟨j, List.mem_range.mpr hj, rfl⟩)))
      (fun i j hi hj hij => absurd (show i = j by omega) hij) hA
    refine ⟨(adK 0, adV 0), vk_R.of hR (hE 0 (by omega)), ?_⟩
    refine ⟨fun k hk => ?_, fun i j hi hj _ => by omega⟩
    have := hS.1 k hk
    rw [show k = 0 by omega] at this ⊢
    exact this)
  have hE : a_Env (fun i => (ad i).1) (fun i => (ad i).2) b (a_scr L xs) (fun q : Nat => s.heap.size ≤ q) s s.heap := by
    refine ⟨had, vx_Zqof (T _ (by simp)) (T _ (by simp)) (G _ (by simp)) hA, vx_Zqof (T _ (by simp)) (T _ (by simp)) (G _ (by simp)) hA, va_Zof (T _ (by simp)) (T _ (by simp)) (va_eqt (G _ (by simp))) hA, va_Zqof (T _ (by simp)) (T _ (by simp)) (G _ (by simp)) hA, va_Nc.of (G _ (by simp)), fun w hw => ?_, ?_, hbl, hA b hbl⟩
    · have h9 := hts w (g_AWN w hw)
      have ho := List.all_eq_true.mp AWN_hw w hw
      cases w with
      | methodLinkNest a i x h => exact va_Nw.of rfl h9
      | castable a b => exact va_Nw.of rfl h9
      | declares x => exact va_Nw.of rfl h9
      | _ => cases ho
    · obtain ⟨scr, g1, g2, g3, g4, g5⟩ := hX
      exact ⟨scr, g1, g2, g3, g4.trans a_scr_len.symm, fun j hj => by
        rw [a_scr_len] at hj
        show scr.slots[j]? = some (.int ((a_scr L xs).getD j 0))
        rw [a_scr_get hj]
        exact g5 j hj⟩
  have hfl : l.stackTraces = false := by
    unfold Launch.stackTraces
    rw [hflags]
    decide
  have htab' : c.exceptionTable.toList = tableOf (mH 296) := List.eq_nil_iff_forall_not_mem.mpr (fun x hx => htab x hx)
  have hXX : a_X (fun i => (ad i).1) (fun i => (ad i).2) b (a_scr L xs) (fun i => (f i).1, fun i => (f i).2) cA (fun q : Nat => s.heap.size ≤ q) p l room_1 s m #[Value.ref b] meth c 100 296 :=
    ⟨⟨hx, hb, hml, hown, hall⟩, hlocks, hfl, fun h => absurd h (by decide +kernel), htab', hK, hE, fun _ h => h, by decide, by decide, by decide⟩
  have hl := lv_entry [.ref b] (n := 8) (Nat.le_of_ble_eq_true rfl)
  rw [lg_entry_eq]
  generalize (lg_sl [.ref b] ++ List.replicate (8 - (lg_sl [.ref b]).length) Slot.unset).toArray = sl at hl ⊢
  have hI : a_I (fun i => (f i).1, fun i => (f i).2) cA (fun i => (ad i).1) b (fun q : Nat => s.heap.size ≤ q) s s.heap [] (fun x => if x = a_SC then b else (ad (x - a_SB)).1) [] := by
    refine ⟨fun k q h => by simp [a_C] at h, ⟨fun i j p q h => by simp [a_C] at h, fun k q h => by simp [a_C] at h⟩, va_S.rf, fun k c fs h => by simp at h, Nat.zero_le _, if_pos rfl, fun i hi => ?_⟩
    show (if a_SB + i = a_SC then b else (ad (a_SB + i - a_SB)).1) = (ad i).1
    rw [if_neg (by unfold a_SB a_SC; omega), Nat.add_sub_cancel_left]
  have hF : a_F (fun x => if x = a_SC then b else (ad (x - a_SB)).1) [] (mX 296) sl [(0, .ref a_SC)] [] := by
    refine ⟨?_, fun q hq => ?_, fun v hv => nomatch hv⟩
    · show lv_has sl 8 [(0, .ref (if a_SC = a_SC then b else _))]
      rw [if_pos rfl]
      exact hl
    · rw [List.mem_singleton] at hq
      subst hq
      exact a_rk_ref (Or.inr (Nat.le_refl _))
  refine (a_fs (a_scr L xs) n _ _ _ _ _ _ _ _ _ hev).2.2.2 p l e room_1 s m #[Value.ref b] below meth c s.heap [] _ _ _ _ _ _ _ _ sl 0 _ hXX hI hF a_ex_rf (Nat.le_refl _) hnc hns ⟨?_, ?_⟩
  · intro v hv θ' H' locs' sl' pc' i st' hlk hret hex hI'
    cases hv
    rcases ret_inl hret with ⟨x, rfl, rfl, hx1, -⟩ | ⟨x, -, -, hx1, -⟩ | ⟨-, -, hx1, -⟩
    · cases hx1
      exact va_forget (fun q hq => hI'.2.2.1.2.2 q hq) (W.widen hnc hns (lw_ret hx hb hr hlocks (show decode code pc' = .ok (.ireturn, 1) from a_dec (k := 296) (by decide) hlk)))
    · cases hx1
    · cases hx1
  · intro x hx1
    cases hx1
