/-! ===== the law, on every script of its length ===== -/
set_option maxRecDepth 100000 in
theorem law_more {x0 x1 x2 x3 x4 x5 x6 x7 : Int32} : Wp [x0, x1, x2, x3, x4, x5, x6, x7] 100 296 2739 l1 [] w1 68 8870 Qlaw := by
  refine q_iincv (v := 8) rfl rfl (by decide) (by decide +kernel) ?_
  refine q_goto (t := 23) rfl (by decide) ?_
  exact q_end rfl rfl (by decide) (by decide)
set_option maxRecDepth 100000 in
theorem law_8 {x0 x1 x2 x3 x4 x5 x6 x7 : Int32} : Wp [x0, x1, x2, x3, x4, x5, x6, x7] 100 296 23 l1 [] w1 68 8870 Qlaw := by
  refine q_iload rfl rfl ?_
  refine q_aload_n rfl rfl ?_
  refine q_slen rfl ?_
  refine q_bipushv (v := 8) rfl (by decide +kernel) ?_
  refine q_isubv (v := 0) rfl (by show Int32.ofNat 8 - 8 = 0; decide +kernel) ?_
  refine q_ic_gt_f (t := 2745) rfl (by decide) (by decide +kernel) ?_
  refine q_aload_n rfl rfl ?_
  refine q_iload rfl rfl ?_
  refine q_script rfl (by decide) rfl ?_
  refine q_bipushv (v := 63) rfl (by decide +kernel) ?_
  refine q_iand rfl ?_
  generalize x0 &&& 63 = y
  by_cases hy : y.toInt < 0 ∨ 42 < y.toInt
  · refine q_tsw_o (t := 2739) rfl hy (by decide) ?_
    exact law_more
  obtain ⟨c, hc, rfl⟩ : ∃ c : Nat, c < 43 ∧ y = Int32.ofNat c := by
    refine ⟨y.toInt.toNat, by omega, Int32.toInt_inj.mp ?_⟩
    rw [Int32.toInt_ofNat_of_lt (by omega)]
    omega
  match c, hc with
  | 0, _ => exact q_tsw_i (t := 228) (off := 188) rfl (by decide +kernel) rfl (by decide) op_0
  | 1, _ => exact q_tsw_i (t := 301) (off := 261) rfl (by decide +kernel) rfl (by decide) op_1
  | 2, _ => exact q_tsw_i (t := 357) (off := 317) rfl (by decide +kernel) rfl (by decide) op_2
  | 3, _ => exact q_tsw_i (t := 413) (off := 373) rfl (by decide +kernel) rfl (by decide) op_3
  | 4, _ => exact q_tsw_i (t := 469) (off := 429) rfl (by decide +kernel) rfl (by decide) op_4
  | 5, _ => exact q_tsw_i (t := 525) (off := 485) rfl (by decide +kernel) rfl (by decide) op_5
  | 6, _ => exact q_tsw_i (t := 581) (off := 541) rfl (by decide +kernel) rfl (by decide) op_6
  | 7, _ => exact q_tsw_i (t := 594) (off := 554) rfl (by decide +kernel) rfl (by decide) op_7
  | 8, _ => exact q_tsw_i (t := 607) (off := 567) rfl (by decide +kernel) rfl (by decide) op_8
  | 9, _ => exact q_tsw_i (t := 663) (off := 623) rfl (by decide +kernel) rfl (by decide) op_9
  | 10, _ => exact q_tsw_i (t := 731) (off := 691) rfl (by decide +kernel) rfl (by decide) op_10
  | 11, _ => exact q_tsw_i (t := 799) (off := 759) rfl (by decide +kernel) rfl (by decide) op_11
  | 12, _ => exact q_tsw_i (t := 867) (off := 827) rfl (by decide +kernel) rfl (by decide) op_12
  | 13, _ => exact q_tsw_i (t := 923) (off := 883) rfl (by decide +kernel) rfl (by decide) op_13
  | 14, _ => exact q_tsw_i (t := 1055) (off := 1015) rfl (by decide +kernel) rfl (by decide) op_14
  | 15, _ => exact q_tsw_i (t := 1135) (off := 1095) rfl (by decide +kernel) rfl (by decide) op_15
  | 16, _ => exact q_tsw_i (t := 1215) (off := 1175) rfl (by decide +kernel) rfl (by decide) op_16
  | 17, _ => exact q_tsw_i (t := 1295) (off := 1255) rfl (by decide +kernel) rfl (by decide) op_17
  | 18, _ => exact q_tsw_i (t := 1363) (off := 1323) rfl (by decide +kernel) rfl (by decide) op_18
  | 19, _ => exact q_tsw_i (t := 1431) (off := 1391) rfl (by decide +kernel) rfl (by decide) op_19
  | 20, _ => exact q_tsw_i (t := 1511) (off := 1471) rfl (by decide +kernel) rfl (by decide) op_20
  | 21, _ => exact q_tsw_i (t := 1567) (off := 1527) rfl (by decide +kernel) rfl (by decide) op_21
  | 22, _ => exact q_tsw_i (t := 1623) (off := 1583) rfl (by decide +kernel) rfl (by decide) op_22
  | 23, _ => exact q_tsw_i (t := 1714) (off := 1674) rfl (by decide +kernel) rfl (by decide) op_23
  | 24, _ => exact q_tsw_i (t := 1794) (off := 1754) rfl (by decide +kernel) rfl (by decide) op_24
  | 25, _ => exact q_tsw_i (t := 1874) (off := 1834) rfl (by decide +kernel) rfl (by decide) op_25
  | 26, _ => exact q_tsw_i (t := 1930) (off := 1890) rfl (by decide +kernel) rfl (by decide) op_26
  | 27, _ => exact q_tsw_i (t := 1943) (off := 1903) rfl (by decide +kernel) rfl (by decide) op_27
  | 28, _ => exact q_tsw_i (t := 2011) (off := 1971) rfl (by decide +kernel) rfl (by decide) op_28
  | 29, _ => exact q_tsw_i (t := 2024) (off := 1984) rfl (by decide +kernel) rfl (by decide) op_29
  | 30, _ => exact q_tsw_i (t := 2080) (off := 2040) rfl (by decide +kernel) rfl (by decide) op_30
  | 31, _ => exact q_tsw_i (t := 2136) (off := 2096) rfl (by decide +kernel) rfl (by decide) op_31
  | 32, _ => exact q_tsw_i (t := 2192) (off := 2152) rfl (by decide +kernel) rfl (by decide) op_32
  | 33, _ => exact q_tsw_i (t := 2248) (off := 2208) rfl (by decide +kernel) rfl (by decide) op_33
  | 34, _ => exact q_tsw_i (t := 2316) (off := 2276) rfl (by decide +kernel) rfl (by decide) op_34
  | 35, _ => exact q_tsw_i (t := 2329) (off := 2289) rfl (by decide +kernel) rfl (by decide) op_35
  | 36, _ => exact q_tsw_i (t := 2385) (off := 2345) rfl (by decide +kernel) rfl (by decide) op_36
  | 37, _ => exact q_tsw_i (t := 2453) (off := 2413) rfl (by decide +kernel) rfl (by decide) op_37
  | 38, _ => exact q_tsw_i (t := 2545) (off := 2505) rfl (by decide +kernel) rfl (by decide) op_38
  | 39, _ => exact q_tsw_i (t := 2663) (off := 2623) rfl (by decide +kernel) rfl (by decide) op_39
  | 40, _ => exact q_tsw_i (t := 2676) (off := 2636) rfl (by decide +kernel) rfl (by decide) op_40
  | 41, _ => exact q_tsw_i (t := 2689) (off := 2649) rfl (by decide +kernel) rfl (by decide) op_41
  | 42, _ => exact q_tsw_i (t := 2714) (off := 2674) rfl (by decide +kernel) rfl (by decide) op_42
  | c + 43, h => exact absurd h (by omega)
set_option maxRecDepth 100000 in
theorem law_0 {sc : List Int32} {L : Nat} (hL : L < 8) (hs : sc.length = L) : Wp sc 100 296 23 l1 [] w1 68 8870 Qlaw := by
  refine q_iload rfl rfl ?_
  refine q_aload_n rfl rfl ?_
  refine q_slen rfl ?_
  refine q_bipushv (v := 8) rfl (by decide +kernel) ?_
  refine q_isub rfl ?_
  refine q_ic_gt_t (t := 2745) rfl (by decide) ?_ ?_
  · rw [hs]
    match L, hL with
    | 0, _ => decide +kernel
    | 1, _ => decide +kernel
    | 2, _ => decide +kernel
    | 3, _ => decide +kernel
    | 4, _ => decide +kernel
    | 5, _ => decide +kernel
    | 6, _ => decide +kernel
    | 7, _ => decide +kernel
    | L + 8, h => exact absurd h (by omega)
  refine q_iconstv (v := 1) rfl (by decide +kernel) ?_
  refine q_zret rfl rfl (by decide) ?_
  exact ⟨rfl, by decide, by decide⟩
theorem law_all {L : Nat} {xs : Nat → Int32} (hL : L ≤ 8) : Wp (a_scr L xs) 100 296 0 [(0, .ref a_SC)] [] [] 0 0 Qlaw := by
  refine q_w1 ?_
  by_cases h : L < 8
  · exact law_0 h a_scr_len
  · have e : L = 8 := by omega
    subst e
    exact law_8
theorem whole_start {p : Program} {e : Env} {s : State} {m : MethodId} {below : List Frame} {meth : Method} {c : Code} (l : Launch) (hflags : l.flags = flags0) {b L : Nat} {xs : Nat → Int32} (hL : L ≤ 8) (C0 : lw_At p s m meth c b L xs) : W p l e room_1 s m #[Value.ref b] below meth c s.heap [] 0 0 (lw_Z below #[Value.ref b] s) (entryFrame m ([Value.ref b] : List Value).toArray 8) := by
  obtain ⟨n, ⟨o, w, nc, ns⟩, hev, ho, hnc, hns⟩ := law_all (xs := xs) hL
  dsimp only at ho hnc hns
  subst ho
  exact a_start l hflags C0 hev hnc hns
set_option maxHeartbeats 4000000 in
theorem lw_walk (l : Launch) (hflags : l.flags = flags0) (b : Addr) (xs : List Int32) : MetFree l x (headSpec (Jvm.Cond.code x code maxLocals ret :: tables_1) room_1) (lw_P b xs) (fun _ _ _ _ _ => True) lw_Q := by
  refine MetFree.of_bodyS (code := code) (maxLocals := maxLocals) (ret := ret) (by decide) ?_ ?_
  · intro args s m h hn
    obtain ⟨meth, c, h1, h2, h3, h4, h5, h6, -, -⟩ := Cond.code_spec hn (atoms_spec (ws := Jvm.Cond.code x code maxLocals ret :: tables_1) h _ List.mem_cons_self)
    exact ⟨meth, c, h1, h2, h3, h4, h5, h6⟩
  · intro p e s m args below meth c s₁ B hml0 hP _
    obtain ⟨rfl, hx, hbd, hgv⟩ := hP
    obtain ⟨scr, harrAt, hlist, hof, hsmall⟩ := hx
    obtain ⟨hcb, hkn, -, -⟩ := State.arrayAt?_spec harrAt
    have hown : s.vm.findClass R_law = some m.cls := findClass_of_methodNamed B.named
    have hts0 : ∀ c ∈ (Jvm.Cond.code x code maxLocals ret :: tables_1), c.before #[Value.ref b] s = true := atoms_spec (ws := Jvm.Cond.code x code maxLocals ret :: tables_1) B.pre
    have hts : ∀ w ∈ lw_tbl, w.before #[Value.ref b] s = true := k2_hts_sels lw_privs (fun w hw => hts0 w (List.mem_cons_of_mem _ hw)) lw_privs_ok
    have hml : c.maxLocals = 8 := B.maxLocals_eq (hts0 _ List.mem_cons_self)
    have X₀ : Stand p l e room_1 s m #[Value.ref b] below meth c s₁ [] 0 0 := Stand.of_body B
    have hh0 : s₁.heap = s.heap := by rw [B.state]; rfl
    have hsz : scr.slots.size = xs.length := by rw [← Array.length_toList, hlist, List.length_map]
    have hval : ∀ j : Nat, j < xs.length → scr.slots[j]? = some (.int (xs.getD j 0)) := fun j hj => by
      rw [← Array.getElem?_toList, hlist]
      simp [hj]
    have hbl : b < s.heap.size := (Array.getElem?_eq_some_iff.mp hcb).1
    have hX : va_X b xs.length (fun j => xs.getD j 0) s s.heap := ⟨scr, hcb, hof, hkn, hsz, hval⟩
    have ht : ∀ x ∈ c.exceptionTable.toList, False := by
      obtain ⟨meth9, c9, h1, h2, -, -, -, -, h7, -⟩ := Cond.code_spec B.named (hts0 _ List.mem_cons_self)
      cases Option.some.inj (h1.symm.trans B.method)
      cases Option.some.inj (h2.symm.trans (Stand.of_body B).code)
      intro x hx
      rw [Array.isEmpty_iff.mp h7] at hx
      cases hx
    have K : W p l e room_1 s m #[Value.ref b] below meth c s₁.heap [] 0 0 (lw_Z below #[Value.ref b] s) (entryFrame m ([Value.ref b] : List Value).toArray 8) := by
      rw [hh0]
      exact whole_start l hflags hbd ⟨B.exec, B.bytes, B.returns, hml, hown, hts, hX, hbl, B.notSynchronized, hgv, ht⟩
    obtain ⟨t, a1, o, b1, b2, b3⟩ := K s₁ rfl X₀
    exact ⟨t, o, a1, b1, b2, b3⟩
theorem lw_pre_spec {args : Array Value} {s : State} (h : (Jvm.Cond.and given_1 narrow_1).before args s = true) (hr : rest_1_c.before args s = true) : ∃ (b : Addr) (xs : List Int32), lw_P b xs args s := by
  have hs := flat_of_before _ h
  have hq := flat_of_before _ hr
  have hc : (Cond.count 1).before args s = true := hs _ (by decide +kernel)
  have harr : (Cond.arrayOf (.arg 0) .int).before args s = true := hs _ (by decide +kernel)
  have hle : (Cond.le (.length (.arg 0)) (.int 8)).before args s = true := hs _ (by decide +kernel)
  have hlen : (Cond.isInt (.length (.arg 0))).before args s = true := hq _ (by decide +kernel)
  have hall : (Cond.all (.arg 0) (.isInt (.elem (.arg 0) (.index 0)))).before args s = true := hq _ (by decide +kernel)
  obtain ⟨b, xs, hb, hx⟩ := State.ints_of_pre rfl harr hlen hall
  have hsm : xs.length < 2 ^ 31 := hx.choose_spec.2.2.2
  have hev : (Term.length (.arg 0)).eval args s none [] s = some (.int xs.length.toInt32) := hx.length_eval hb
  have hv := Cond.le_ints hev (show (Term.int 8).eval args s none [] s = some (.int 8) from rfl)
  have hd : xs.length.toInt32 ≤ 8 := by
    simpa [Cond.before, Cond.holds, hv] using hle
  have hN : xs.length ≤ 8 := (Int32.ofNat_le_ofNat hsm (by decide)).mp (show Int32.ofNat xs.length ≤ Int32.ofNat 8 from hd)
  exact ⟨b, xs, Cond.one_arg hc (show args[0]? = some (.ref b) from hb), hx, hN, h⟩
theorem lw_comes (l : Launch) (hflags : l.flags = flags0) : Comes l x (Jvm.Cond.code x code maxLocals ret :: tables_1) room_1 (fun tb e args s => Calls_1 tb e args s ∧ rest_1 tb e args s ∧ Pre_1 tb e args s)
    (fun _ _ args s o t => lw_Q args s o t) := by
  intro p e ha hc hk s m args below hf hfit hheap happ hpre
  obtain ⟨b, xs, hP⟩ := lw_pre_spec hpre.2.2 hpre.2.1
  obtain ⟨k, o, h1, h2, h3, hQ⟩ := lw_walk l hflags b xs p e ha hc hk s m args below hf ((Spec.applies_iff_loose hf).mp happ).1 hP trivial
  exact ⟨k, o, h1, h2, h3, hQ⟩
theorem lw_frame {s t : State} {o : Outcome} {args : Array Value} (h : Framed s o t [] 600002 7302232) :
    Framed s o t (fieldLocs frame_1_writes args s ++ arrayLocs frame_1_arrays args s ++ staticLocs frame_1_statics s) 600002 7302232 := h
theorem lw_limb (L : Cond) (hL : ∀ (args : Array Value) (s t : State), L.after args s (.returned (some (.int 1))) t = true) :
    ArmFor flags0 classFile x code maxLocals ret World_1 tables_1 room_1 Calls_1 rest_1 Pre_1
      (fun tb e a s o t => postC L tb e a s o t ∧ Framed s o t (fieldLocs frame_1_writes a s ++ arrayLocs frame_1_arrays a s ++ staticLocs frame_1_statics s) 600002 7302232) := by
  intro l hflags _ _ p e ha hc hk s m args below hf hfit hheap happ hpre
  obtain ⟨k, o, h1, h2, h3, rfl, hF⟩ := lw_comes l hflags p e ha hc hk s m args below hf hfit hheap happ hpre
  exact ⟨k, _, h1, h2, h3, hL args s _, lw_frame hF⟩
theorem i_vc : Claimed_1_1 ∧ Claimed_1_2 := ⟨lw_limb limb_1_1 (fun args s t => by simp [limb_1_1, Cond.after, Cond.holds, Cond.value]), lw_limb limb_1_2 (fun args s t => Cond.after_iff.mpr (by
  first | (rw [show limb_1_2 = Cond.eq .result (.int 1) from rfl, Cond.eq_ints (x := 1) (y := 1) rfl rfl]; simp; done) | (simp [limb_1_2, Cond.value, Term.eval]; done)))⟩

