section
/-! ===== the abstract machine: the same bytecode, over a world of numbered cells ===== -/
/-- a cell: an array (0 of int, 1 of byte, 2 of long; what it holds), or an object (its class, its fields) -/
abbrev AE : Type := (Nat × (List Int32 ⊕ List Int64)) ⊕ (Nat × List Value)
abbrev AW : Type := List AE
abbrev AL : Type := List (Nat × Value)
abbrev AN : Type := Nat × AL × List Value × AW × Nat × Nat
abbrev AO : Type := (Option Value ⊕ Nat) × Nat × Nat
abbrev AC : Type := Nat × List Value × List Value
abbrev AR : Type := (Option Value ⊕ Nat) × AW × Nat × Nat
/-- from here on: the text constants; one below: the script -/
noncomputable def a_SB : Nat := 1000000
noncomputable def a_SC : Nat := 999999
noncomputable def a_cat (st : List Value) : Nat := (st.map fun v => v.category).sum
noncomputable def a_s1 (ls : AL) (i : Nat) (v : Value) : AL := (i, v) :: ls.filter (fun q => !(q.1 == i) && !(q.1 + 1 == i && q.2.category == 2))
noncomputable def a_s2 (ls : AL) (i : Nat) (v : Value) : AL := (i, v) :: ls.filter (fun q => !(q.1 == i) && (!(q.1 == i + 1) && !(q.1 + 1 == i && q.2.category == 2)))
noncomputable def a_nx (pc : Nat) (ls : AL) (st : List Value) (w : AW) : Option AN := some (pc, ls, st, w, 0, 0)
noncomputable def a_to (pc : Nat) (off : Int) (ls : AL) (st : List Value) (w : AW) : Option AN :=
  if 0 ≤ (pc : Int) + off then a_nx ((pc : Int) + off).toNat ls st w else none
noncomputable def a_jmp (c : Prop) [Decidable c] (pc : Nat) (off : Int) (ls : AL) (st : List Value) (w : AW) : Option AN :=
  if 0 ≤ (pc : Int) + off then (if c then a_nx ((pc : Int) + off).toNat ls st w else a_nx (pc + 3) ls st w) else none
noncomputable def a_i1 (f : Int32 → Int32) (pc : Nat) (ls : AL) (st : List Value) (w : AW) : Option AN := match st with
  | .int x :: r => a_nx (pc + 1) ls (.int (f x) :: r) w
  | _ => none
noncomputable def a_i2 (f : Int32 → Int32 → Int32) (pc : Nat) (ls : AL) (st : List Value) (w : AW) : Option AN := match st with
  | .int y :: .int x :: r => a_nx (pc + 1) ls (.int (f x y) :: r) w
  | _ => none
noncomputable def a_i2z (f : Int32 → Int32 → Int32) (pc : Nat) (ls : AL) (st : List Value) (w : AW) : Option AN := match st with
  | .int y :: .int x :: r => if y = 0 then none else a_nx (pc + 1) ls (.int (f x y) :: r) w
  | _ => none
noncomputable def a_l2 (f : Int64 → Int64 → Int64) (pc : Nat) (ls : AL) (st : List Value) (w : AW) : Option AN := match st with
  | .long y :: .long x :: r => a_nx (pc + 1) ls (.long (f x y) :: r) w
  | _ => none
noncomputable def a_l2z (f : Int64 → Int64 → Int64) (pc : Nat) (ls : AL) (st : List Value) (w : AW) : Option AN := match st with
  | .long y :: .long x :: r => if y = 0 then none else a_nx (pc + 1) ls (.long (f x y) :: r) w
  | _ => none
noncomputable def a_lcmp (pc : Nat) (ls : AL) (st : List Value) (w : AW) : Option AN := match st with
  | .long y :: .long x :: r => a_nx (pc + 1) ls (.int (lg_cmp x y) :: r) w
  | _ => none
noncomputable def a_i2l (pc : Nat) (ls : AL) (st : List Value) (w : AW) : Option AN := match st with
  | .int x :: r => a_nx (pc + 1) ls (.long x.toInt64 :: r) w
  | _ => none
noncomputable def a_ldI (v : Option Value) (pc : Nat) (ls : AL) (st : List Value) (w : AW) : Option AN := match v with
  | some (.int x) => a_nx pc ls (.int x :: st) w
  | _ => none
noncomputable def a_ldL (v : Option Value) (pc : Nat) (ls : AL) (st : List Value) (w : AW) : Option AN := match v with
  | some (.long x) => a_nx pc ls (.long x :: st) w
  | _ => none
noncomputable def a_ldA (v : Option Value) (pc : Nat) (ls : AL) (st : List Value) (w : AW) : Option AN := match v with
  | some (.ref x) => a_nx pc ls (.ref x :: st) w
  | _ => none
noncomputable def a_stI (n i pc : Nat) (ls : AL) (st : List Value) (w : AW) : Option AN := match st with
  | .int x :: r => if i < n then a_nx pc (a_s1 ls i (.int x)) r w else none
  | _ => none
noncomputable def a_stL (n i pc : Nat) (ls : AL) (st : List Value) (w : AW) : Option AN := match st with
  | .long x :: r => if i + 1 < n then a_nx pc (a_s2 ls i (.long x)) r w else none
  | _ => none
noncomputable def a_stA (n i pc : Nat) (ls : AL) (st : List Value) (w : AW) : Option AN := match st with
  | .ref x :: r => if i < n then a_nx pc (a_s1 ls i (.ref x)) r w else none
  | _ => none
noncomputable def a_inc (n i : Nat) (c : Int) (pc : Nat) (ls : AL) (st : List Value) (w : AW) : Option AN := match a_lk ls i with
  | some (.int x) => if i < n then a_nx (pc + 3) (a_s1 ls i (.int (x + Int32.ofInt c))) st w else none
  | _ => none
noncomputable def a_ldc (c x pc : Nat) (ls : AL) (st : List Value) (w : AW) : Option AN := match a_lk (kI c) x with
  | some v => a_nx pc ls (.int v :: st) w
  | none => match a_lk (kS c) x with
    | some i => if i < sN then a_nx pc ls (.ref (a_SB + i) :: st) w else none
    | none => none
noncomputable def a_ldc2 (c x pc : Nat) (ls : AL) (st : List Value) (w : AW) : Option AN := match a_lk (kL c) x with
  | some v => a_nx pc ls (.long v :: st) w
  | none => none
noncomputable def a_dup (pc : Nat) (ls : AL) (st : List Value) (w : AW) : Option AN := match st with
  | v :: r => if v.category = 1 then a_nx (pc + 1) ls (v :: v :: r) w else none
  | _ => none
noncomputable def a_pop (pc : Nat) (ls : AL) (st : List Value) (w : AW) : Option AN := match st with
  | v :: r => if v.category = 1 then a_nx (pc + 1) ls r w else none
  | _ => none
noncomputable def a_dup2 (pc : Nat) (ls : AL) (st : List Value) (w : AW) : Option AN := match st with
  | u :: v :: r => if u.category = 1 ∧ v.category = 1 then a_nx (pc + 1) ls (u :: v :: u :: v :: r) w else none
  | _ => none
noncomputable def a_tsw (dflt lo hi : Int) (offs : Array Int) (pc : Nat) (ls : AL) (st : List Value) (w : AW) : Option AN := match st with
  | .int x :: r => if x.toInt < lo ∨ hi < x.toInt then a_to pc dflt ls r w else match offs[(x.toInt - lo).toNat]? with
    | some off => a_to pc off ls r w
    | none => none
  | _ => none
noncomputable def a_lsw (dflt : Int) (ps : Array (Int × Int)) (pc : Nat) (ls : AL) (st : List Value) (w : AW) : Option AN := match st with
  | .int x :: r => if (ps.toList.zip (ps.toList.drop 1)).all (fun (a, next) => a.1 < next.1) = true then a_to pc (Op.lookupswitch.offset ps.toList dflt x.toInt) ls r w else none
  | _ => none
noncomputable def a_fit (ty : FieldType) (v : Value) : Bool := match ty, v with
  | .int, .int _ => true
  | .array _, .ref _ => true
  | .object _, .ref _ => true
  | _, _ => false
noncomputable def a_get (c x pc : Nat) (ls : AL) (st : List Value) (w : AW) : Option AN := match st with
  | .ref a :: r => match a_lk (kF c) x with
    | some (ci, f) => match w[a]? with
      | some (.inr (cj, fs)) => if ci = cj then (match fs[f]? with
        | some v => a_nx (pc + 3) ls (v :: r) w
        | none => none) else none
      | _ => none
    | none => none
  | _ => none
noncomputable def a_put (k x pc : Nat) (ls : AL) (st : List Value) (w : AW) : Option AN := match st with
  | v :: .ref a :: r => match a_lk (kF (mK k)) x with
    | some (ci, f) => match w[a]? with
      | some (.inr (cj, fs)) => if (ci = cj ∧ f < fs.length) ∧ (a_fit (YF ci f) v = true ∧ ((TF ci f).2.2.2 = false ∨ (mD k = 2 ∧ mK k = ci))) then a_nx (pc + 3) ls r (w.set a (.inr (cj, fs.set f v))) else none
      | _ => none
    | none => none
  | _ => none
noncomputable def a_ild (t : Nat) (sc : List Int32) (pc : Nat) (ls : AL) (st : List Value) (w : AW) : Option AN := match st with
  | .int i :: .ref a :: r => if 0 ≤ i then (if a = a_SC ∧ t = 0 then (match sc[i.toNatClampNeg]? with
      | some x => a_nx (pc + 1) ls (.int x :: r) w
      | none => none) else match w[a]? with
      | some (.inl (u, .inl l)) => if u = t then (match l[i.toNatClampNeg]? with
        | some x => a_nx (pc + 1) ls (.int x :: r) w
        | none => none) else none
      | _ => none) else none
  | _ => none
noncomputable def a_lld (pc : Nat) (ls : AL) (st : List Value) (w : AW) : Option AN := match st with
  | .int i :: .ref a :: r => if 0 ≤ i then (match w[a]? with
      | some (.inl (u, .inr l)) => if u = 2 then (match l[i.toNatClampNeg]? with
        | some x => a_nx (pc + 1) ls (.long x :: r) w
        | none => none) else none
      | _ => none) else none
  | _ => none
noncomputable def a_ist (pc : Nat) (ls : AL) (st : List Value) (w : AW) : Option AN := match st with
  | .int x :: .int i :: .ref a :: r => if 0 ≤ i then (match w[a]? with
      | some (.inl (u, .inl l)) => if u = 0 ∧ i.toNatClampNeg < l.length then a_nx (pc + 1) ls r (w.set a (.inl (u, .inl (l.set i.toNatClampNeg x)))) else none
      | _ => none) else none
  | _ => none
noncomputable def a_bst (pc : Nat) (ls : AL) (st : List Value) (w : AW) : Option AN := match st with
  | .int x :: .int i :: .ref a :: r => if 0 ≤ i then (match w[a]? with
      | some (.inl (u, .inl l)) => if u = 1 ∧ i.toNatClampNeg < l.length then a_nx (pc + 1) ls r (w.set a (.inl (u, .inl (l.set i.toNatClampNeg x.toInt8.toInt32)))) else none
      | _ => none) else none
  | _ => none
noncomputable def a_lst (pc : Nat) (ls : AL) (st : List Value) (w : AW) : Option AN := match st with
  | .long x :: .int i :: .ref a :: r => if 0 ≤ i then (match w[a]? with
      | some (.inl (u, .inr l)) => if u = 2 ∧ i.toNatClampNeg < l.length then a_nx (pc + 1) ls r (w.set a (.inl (u, .inr (l.set i.toNatClampNeg x)))) else none
      | _ => none) else none
  | _ => none
noncomputable def a_aln (sc : List Int32) (pc : Nat) (ls : AL) (st : List Value) (w : AW) : Option AN := match st with
  | .ref a :: r => if a = a_SC then a_nx (pc + 1) ls (.int (Int32.ofNat sc.length) :: r) w else match w[a]? with
      | some (.inl (u, .inl l)) => if u < 2 then a_nx (pc + 1) ls (.int (Int32.ofNat l.length) :: r) w else none
      | some (.inl (u, .inr l)) => if u = 2 then a_nx (pc + 1) ls (.int (Int32.ofNat l.length) :: r) w else none
      | _ => none
  | _ => none
noncomputable def a_def (c : Nat) : List Value := (List.range (NF c)).map (fun j => defaultValue (YF c j))
/-- a place where the class throws an exception of its own: new, dup, ldc_w, invokespecial, athrow -/
noncomputable def a_thr (k pc v : Nat) : Bool := Nat.beq (mK k) 7 && (match mLk k (pc + 3), mLk k (pc + 4), mLk k (pc + 7), mLk k (pc + 10) with
  | some (.dup, 1), some (.ldc_w x, 3), some (.invokespecial y, 3), some (.athrow, 1) => (match a_lk (kS 7) x with
    | some i => Nat.blt i sN
    | none => false) && (bif Nat.beq v 100 then Nat.beq y 340 else Nat.beq y 347)
  | _, _, _, _ => false)
noncomputable def a_new (k x pc : Nat) (ls : AL) (st : List Value) (w : AW) : Option AN := match a_lk (kX (mK k)) x with
  | some v => if v < 9 ∧ w.length < a_SC then some (pc + 3, ls, .ref w.length :: st, w ++ [.inr (v, a_def v)], 1, NF v) else none
  | none => none
noncomputable def a_thx (d k x pc : Nat) (st : List Value) : Option AO := match a_lk (kX (mK k)) x with
  | some v => if (v = 100 ∨ v = 101) ∧ (6 ≤ d ∧ (a_cat st ≤ 8 ∧ (a_thr k pc v = true ∧ mH k = []))) then some (.inr v, 1, 6) else none
  | none => none
noncomputable def a_nwa (ty : ArrayType) (pc : Nat) (ls : AL) (st : List Value) (w : AW) : Option AN := match st with
  | .int n :: r => if (0 ≤ n ∧ n.toNatClampNeg ≤ 10000) ∧ w.length < a_SC then (match ty with
    | .int => some (pc + 2, ls, .ref w.length :: r, w ++ [.inl (0, .inl (List.replicate n.toNatClampNeg 0))], 1, n.toNatClampNeg)
    | .byte => some (pc + 2, ls, .ref w.length :: r, w ++ [.inl (1, .inl (List.replicate n.toNatClampNeg 0))], 1, n.toNatClampNeg)
    | .long => some (pc + 2, ls, .ref w.length :: r, w ++ [.inl (2, .inr (List.replicate n.toNatClampNeg 0))], 1, n.toNatClampNeg)
    | _ => none) else none
  | _ => none
noncomputable def a_ret (k : Nat) (i : Instr) (st : List Value) : Option AO := match i, st, mR k with
  | .ireturn, [.int v], some .int => some (.inl (some (.int v)), 0, 0)
  | .ireturn, [.int v], some .boolean => if v = 0 ∨ v = 1 then some (.inl (some (.int v)), 0, 0) else none
  | .lreturn, [.long v], some .long => some (.inl (some (.long v)), 0, 0)
  | .return_, [], none => some (.inl none, 0, 0)
  | _, _, _ => none
/-- a call of an object's method, of a constructor (kind 2) -/
noncomputable def a_cv (kd j : Nat) (st : List Value) (w : AW) : Option AC := match st.drop (mV j) with
  | .ref a :: r => (match w[a]? with
    | some (.inr (cj, _)) => if (cj = mK j ∧ mD j = kd) ∧ (j + 1 < mN ∧ (mH j = [] ∧ (a_cat r ≤ 8 ∧ a_cat (.ref a :: (st.take (mV j)).reverse) ≤ mX j))) then some (j, .ref a :: (st.take (mV j)).reverse, r) else none
    | _ => none)
  | _ => none
noncomputable def a_cs (j : Nat) (st : List Value) : Option AC :=
  if (mV j ≤ st.length ∧ mD j = 1) ∧ (j + 1 < mN ∧ (a_cat (st.drop (mV j)) ≤ 8 ∧ a_cat (st.take (mV j)).reverse ≤ mX j)) then some (j, (st.take (mV j)).reverse, st.drop (mV j)) else none
noncomputable def a_sln (d pc : Nat) (ls : AL) (st : List Value) (w : AW) : Option AN := match st with
  | .ref a :: r => if (6 ≤ d ∧ a_cat r ≤ 8) ∧ (a_SB ≤ a ∧ a - a_SB < sN) then a_nx (pc + 3) ls (.int (Int32.ofNat (sB (a - a_SB)).length) :: r) w else none
  | _ => none
noncomputable def a_sch (d pc : Nat) (ls : AL) (st : List Value) (w : AW) : Option AN := match st with
  | .int i :: .ref a :: r => if (6 ≤ d ∧ a_cat r ≤ 8) ∧ ((a_SB ≤ a ∧ a - a_SB < sN) ∧ 0 ≤ i) then (match (sB (a - a_SB))[i.toNatClampNeg]? with
    | some x => a_nx (pc + 3) ls (.int x :: r) w
    | none => none) else none
  | _ => none
noncomputable def a_mth (d : Nat) (f : Int32 → Int32 → Int32) (pc : Nat) (ls : AL) (st : List Value) (w : AW) : Option AN := match st with
  | .int y :: .int x :: r => if 1 ≤ d ∧ a_cat r ≤ 8 then a_nx (pc + 3) ls (.int (f x y) :: r) w else none
  | _ => none
noncomputable def a_abs (d pc : Nat) (ls : AL) (st : List Value) (w : AW) : Option AN := match st with
  | .int x :: r => if 1 ≤ d ∧ a_cat r ≤ 8 then a_nx (pc + 3) ls (.int (if 0 ≤ x then x else 0 - x) :: r) w else none
  | _ => none
noncomputable def a_cpl (f g : List Int32) (sp dp n : Nat) : List Int32 := g.take dp ++ ((f.drop sp).take n ++ g.drop (dp + n))
noncomputable def a_cpy (d pc : Nat) (ls : AL) (st : List Value) (w : AW) : Option AN := match st with
  | .int n :: .int dp :: .ref a :: .int sp :: .ref a0 :: r => if (1 ≤ d ∧ a_cat r ≤ 8) ∧ (0 ≤ n ∧ (0 ≤ dp ∧ 0 ≤ sp)) then (match w[a]?, w[a0]? with
    | some (.inl (u, .inl g)), some (.inl (u0, .inl f)) => if (u = 0 ∧ u0 = 0) ∧ (sp.toNatClampNeg + n.toNatClampNeg ≤ f.length ∧ dp.toNatClampNeg + n.toNatClampNeg ≤ g.length) then
        a_nx (pc + 3) ls r (w.set a (.inl (u, .inl (a_cpl f g sp.toNatClampNeg dp.toNatClampNeg n.toNatClampNeg)))) else none
    | _, _ => none) else none
  | _ => none
noncomputable def a_obj (d pc : Nat) (ls : AL) (st : List Value) (w : AW) : Option AN := match st with
  | .ref _ :: r => if 1 ≤ d ∧ a_cat r ≤ 8 then a_nx (pc + 3) ls r w else none
  | _ => none
noncomputable def a_inv (d k x pc : Nat) (ls : AL) (st : List Value) (w : AW) : Option AN := match a_lk (kM (mK k)) x with
  | some (7, _) => a_sln d pc ls st w
  | some (8, _) => a_sch d pc ls st w
  | _ => none
noncomputable def a_ins (d k x pc : Nat) (ls : AL) (st : List Value) (w : AW) : Option AN := match a_lk (kM (mK k)) x with
  | some (3, _) => a_mth d (fun x y => if x < y then y else x) pc ls st w
  | some (4, _) => a_mth d (fun x y => if y < x then y else x) pc ls st w
  | some (5, _) => a_abs d pc ls st w
  | some (6, _) => a_cpy d pc ls st w
  | _ => none
noncomputable def a_inp (d k x pc : Nat) (ls : AL) (st : List Value) (w : AW) : Option AN := match a_lk (kM (mK k)) x with
  | some (2, _) => a_obj d pc ls st w
  | _ => none
noncomputable def ins (sc : List Int32) (d k pc : Nat) (ls : AL) (st : List Value) (w : AW) (i : Instr) : Option AN := match i with
  | .iconst n => a_nx (pc + 1) ls (.int (Int32.ofInt n) :: st) w
  | .bipush n => a_nx (pc + 2) ls (.int (Int8.ofInt n).toInt32 :: st) w
  | .sipush n => a_nx (pc + 3) ls (.int (Int16.ofInt n).toInt32 :: st) w
  | .lconst n => a_nx (pc + 1) ls (.long (Int64.ofNat (n : Nat)) :: st) w
  | .ldc x => a_ldc (mK k) x (pc + 2) ls st w
  | .ldc_w x => a_ldc (mK k) x (pc + 3) ls st w
  | .ldc2_w x => a_ldc2 (mK k) x (pc + 3) ls st w
  | .iload i => a_ldI (a_lk ls i) (pc + 2) ls st w
  | .iload_n n => a_ldI (a_lk ls (n : Nat)) (pc + 1) ls st w
  | .lload i => a_ldL (a_lk ls i) (pc + 2) ls st w
  | .lload_n n => a_ldL (a_lk ls (n : Nat)) (pc + 1) ls st w
  | .aload i => a_ldA (a_lk ls i) (pc + 2) ls st w
  | .aload_n n => a_ldA (a_lk ls (n : Nat)) (pc + 1) ls st w
  | .istore i => a_stI (mX k) i (pc + 2) ls st w
  | .istore_n n => a_stI (mX k) (n : Nat) (pc + 1) ls st w
  | .lstore i => a_stL (mX k) i (pc + 2) ls st w
  | .lstore_n n => a_stL (mX k) (n : Nat) (pc + 1) ls st w
  | .astore i => a_stA (mX k) i (pc + 2) ls st w
  | .astore_n n => a_stA (mX k) (n : Nat) (pc + 1) ls st w
  | .iinc i c => a_inc (mX k) i c pc ls st w
  | .iadd => a_i2 (fun x y => x + y) pc ls st w
  | .isub => a_i2 (fun x y => x - y) pc ls st w
  | .imul => a_i2 (fun x y => x * y) pc ls st w
  | .iand => a_i2 (fun x y => x &&& y) pc ls st w
  | .ior => a_i2 (fun x y => x ||| y) pc ls st w
  | .ixor => a_i2 (fun x y => x ^^^ y) pc ls st w
  | .ishl => a_i2 (fun x y => x <<< (y &&& 31)) pc ls st w
  | .ishr => a_i2 (fun x y => x >>> (y &&& 31)) pc ls st w
  | .iushr => a_i2 (fun x y => (x.toUInt32 >>> (y.toUInt32 &&& Int32.toUInt32 31)).toInt32) pc ls st w
  | .idiv => a_i2z (fun x y => x / y) pc ls st w
  | .irem => a_i2z (fun x y => x - x / y * y) pc ls st w
  | .ineg => a_i1 (fun x => -x) pc ls st w
  | .i2b => a_i1 (fun x => x.toInt8.toInt32) pc ls st w
  | .i2l => a_i2l pc ls st w
  | .ladd => a_l2 (fun x y => x + y) pc ls st w
  | .lmul => a_l2 (fun x y => x * y) pc ls st w
  | .ldiv => a_l2z (fun x y => x / y) pc ls st w
  | .lrem => a_l2z (fun x y => x - x / y * y) pc ls st w
  | .lcmp => a_lcmp pc ls st w
  | .dup => a_dup pc ls st w
  | .dup2 => a_dup2 pc ls st w
  | .pop => a_pop pc ls st w
  | .goto off => a_to pc off ls st w
  | .ifCond .eq off => (match st with | .int x :: r => a_jmp (x = 0) pc off ls r w | _ => none)
  | .ifCond .ne off => (match st with | .int x :: r => a_jmp (¬ x = 0) pc off ls r w | _ => none)
  | .ifCond .lt off => (match st with | .int x :: r => a_jmp (x < 0) pc off ls r w | _ => none)
  | .ifCond .ge off => (match st with | .int x :: r => a_jmp (0 ≤ x) pc off ls r w | _ => none)
  | .ifCond .gt off => (match st with | .int x :: r => a_jmp (0 < x) pc off ls r w | _ => none)
  | .ifCond .le off => (match st with | .int x :: r => a_jmp (x ≤ 0) pc off ls r w | _ => none)
  | .if_icmp .eq off => (match st with | .int y :: .int x :: r => a_jmp (x = y) pc off ls r w | _ => none)
  | .if_icmp .ne off => (match st with | .int y :: .int x :: r => a_jmp (¬ x = y) pc off ls r w | _ => none)
  | .if_icmp .lt off => (match st with | .int y :: .int x :: r => a_jmp (x < y) pc off ls r w | _ => none)
  | .if_icmp .ge off => (match st with | .int y :: .int x :: r => a_jmp (y ≤ x) pc off ls r w | _ => none)
  | .if_icmp .gt off => (match st with | .int y :: .int x :: r => a_jmp (y < x) pc off ls r w | _ => none)
  | .if_icmp .le off => (match st with | .int y :: .int x :: r => a_jmp (x ≤ y) pc off ls r w | _ => none)
  | .tableswitch dflt lo hi offs => a_tsw dflt lo hi offs pc ls st w
  | .lookupswitch dflt ps => a_lsw dflt ps pc ls st w
  | .getfield x => a_get (mK k) x pc ls st w
  | .putfield x => a_put k x pc ls st w
  | .iaload => a_ild 0 sc pc ls st w
  | .baload => a_ild 1 sc pc ls st w
  | .laload => a_lld pc ls st w
  | .iastore => a_ist pc ls st w
  | .bastore => a_bst pc ls st w
  | .lastore => a_lst pc ls st w
  | .arraylength => a_aln sc pc ls st w
  | .new x => a_new k x pc ls st w
  | .newarray ty => a_nwa ty pc ls st w
  | .invokevirtual x => a_inv d k x pc ls st w
  | .invokestatic x => a_ins d k x pc ls st w
  | .invokespecial x => a_inp d k x pc ls st w
  | _ => none
/-- the end of a method: it answers, or throws -/
noncomputable def fin (d k pc : Nat) (st : List Value) (i : Instr) : Option AO := match i with
  | .ireturn => a_ret k .ireturn st
  | .lreturn => a_ret k .lreturn st
  | .return_ => a_ret k .return_ st
  | .new x => a_thx d k x pc st
  | _ => none
/-- a call -/
noncomputable def cal (k : Nat) (st : List Value) (w : AW) (i : Instr) : Option AC := match i with
  | .invokevirtual x => (match a_lk (kM (mK k)) x with
    | some (0, j) => a_cv 0 j st w
    | _ => none)
  | .invokestatic x => (match a_lk (kM (mK k)) x with
    | some (0, j) => a_cs j st
    | _ => none)
  | .invokespecial x => (match a_lk (kM (mK k)) x with
    | some (0, j) => a_cv 2 j st w
    | some (1, j) => a_cv 2 j st w
    | _ => none)
  | _ => none
/-- a handler of the law's own: astore, iconst, ireturn -/
noncomputable def a_hc (k h : Nat) : Option Int32 := match mR k with
  | some .int => (match mLk k h with
    | some (.astore_n n, 1) => if (n : Nat) < mX k then (match mLk k (h + 1), mLk k (h + 2) with
      | some (.iconst v, 1), some (.ireturn, 1) => some (Int32.ofInt v)
      | _, _ => none) else none
    | some (.astore n, 2) => if n < mX k then (match mLk k (h + 2), mLk k (h + 3) with
      | some (.iconst v, 1), some (.ireturn, 1) => some (Int32.ofInt v)
      | _, _ => none) else none
    | _ => none)
  | _ => none
noncomputable def a_hnd (k pc v : Nat) : Option Int32 := if v = 100 ∨ v = 101 then (match mH k with
  | [(f, t, h, ct)] => if (f ≤ pc ∧ pc < t) ∧ (ct ≠ 0 ∧ a_lk (kX (mK k)) ct = some v) then a_hc k h else none
  | [(f, t, h, ct), (f2, t2, h2, ct2)] => if (f ≤ pc ∧ pc < t) ∧ (ct ≠ 0 ∧ a_lk (kX (mK k)) ct = some v) then a_hc k h
      else if ((v = 101 ∧ ct ≠ 0) ∧ a_lk (kX (mK k)) ct = some 100) ∧ ((f2 ≤ pc ∧ pc < t2) ∧ (ct2 ≠ 0 ∧ a_lk (kX (mK k)) ct2 = some v)) then a_hc k h2 else none
  | _ => none) else none
/-- what a frame does with the answer of a call (it goes on by 'go') -/
noncomputable def a_bk (k pc j : Nat) (rest : List Value) (nc ns : Nat) (go : List Value → AW → Nat → Nat → Option AR) : Option AR → Option AR
  | none => none
  | some (.inl v, w, a, b) => go (v.toList ++ rest) w (nc + a) (ns + b)
  | some (.inr v, w, a, b) => if mD j = 0 then (match mH k with
    | [] => some (.inr v, w, nc + a, ns + b)
    | _ :: _ => match a_hnd k pc v with
      | some z => some (.inl (some (.int z)), w, nc + a, ns + b)
      | none => none) else none
noncomputable def ev (sc : List Int32) : Nat → Nat → Nat → Nat → AL → List Value → AW → Nat → Nat → Option AR
  | 0, _, _, _, _, _, _, _, _ => none
  | n + 1, d, k, pc, ls, st, w, nc, ns => match mLk k pc with
    | none => none
    | some (i, _) => match ins sc d k pc ls st w i with
      | some (pc', ls', st', w', a, b) => ev sc n d k pc' ls' st' w' (nc + a) (ns + b)
      | none => match fin d k pc st i with
        | some (o, a, b) => some (o, w, nc + a, ns + b)
        | none => match cal k st w i with
          | some (j, ags, rest) => (match d with
            | 0 => none
            | d' + 1 => a_bk k pc j rest nc ns (fun st' w' a b => ev sc n d k (pc + 3) ls st' w' a b) (ev sc n d' j 0 (lv_args 0 ags) [] w 0 0))
          | none => none
end
section
abbrev vwCl : List vw_C := [(RX0, TX0, 6), (RX1, TX1, 5), (RX2, TX2, 13), (RX3, TX3, 5), (RX4, TX4, 2), (RX5, TX5, 6), (RX6, TX6, 1), (RX7, TX7, 14), (RX8, TX8, 53)]
/-! ===== how the abstract machine's cells lie in the heap ===== -/
noncomputable def a_V (θ : Nat → Nat) : Value → Value
  | .ref a => .ref (θ a)
  | v => v
theorem a_V_cat (θ : Nat → Nat) (v : Value) : (a_V θ v).category = v.category := by cases v <;> rfl
theorem a_cat_V (θ : Nat → Nat) (st : List Value) : a_cat (st.map (a_V θ)) = a_cat st := by
  unfold a_cat
  rw [List.map_map]
  congr 1
  exact List.map_congr_left fun v _ => a_V_cat θ v
noncomputable def a_E (cA : Nat → ClassId) (θ : Nat → Nat) : AE → va_E
  | .inl (t, .inl l) => .inl (cA t, l.length, .inl (fun i => l.getD i 0))
  | .inl (t, .inr l) => .inl (cA t, l.length, .inr (.inl (fun i => l.getD i 0)))
  | .inr (c, fs) => .inr (c, fs.map (a_V θ))
noncomputable def a_C (cA : Nat → ClassId) (θ : Nat → Nat) (w : AW) : va_W := w.mapIdx (fun k e => (θ k, a_E cA θ e))
theorem a_C_len {cA : Nat → ClassId} {θ : Nat → Nat} {w : AW} : (a_C cA θ w).length = w.length := by simp [a_C]
theorem a_C_at {cA : Nat → ClassId} {θ : Nat → Nat} {w : AW} (k : Nat) : (a_C cA θ w)[k]? = (w[k]?).map (fun e => (θ k, a_E cA θ e)) := by
  simp [a_C, List.getElem?_mapIdx]
theorem a_C_get {cA : Nat → ClassId} {θ : Nat → Nat} {w : AW} {k : Nat} {e : AE} (h : w[k]? = some e) : (a_C cA θ w)[k]? = some (θ k, a_E cA θ e) := by
  rw [a_C_at, h]; rfl
theorem a_C_set {cA : Nat → ClassId} {θ : Nat → Nat} {w : AW} {k : Nat} {e : AE} : a_C cA θ (w.set k e) = (a_C cA θ w).set k (θ k, a_E cA θ e) := by
  apply List.ext_getElem?
  intro i
  rw [a_C_at, List.getElem?_set, List.getElem?_set, a_C_len, a_C_at]
  by_cases hk : k = i
  · subst hk
    by_cases hl : k < w.length
    · simp [hl]
    · simp [hl]
  · simp [hk]
theorem a_C_push {cA : Nat → ClassId} {θ : Nat → Nat} {w : AW} {e : AE} : a_C cA θ (w ++ [e]) = a_C cA θ w ++ [(θ w.length, a_E cA θ e)] := by
  simp [a_C, List.mapIdx_append]
/-- a reference is known: to a cell, or to what stands apart -/
noncomputable def a_rk (n : Nat) (v : Value) : Prop := ∀ a : Nat, v = .ref a → a < n ∨ a_SC ≤ a
theorem a_rk_int {n : Nat} (x : Int32) : a_rk n (.int x) := fun _ h => by cases h
theorem a_rk_long {n : Nat} (x : Int64) : a_rk n (.long x) := fun _ h => by cases h
theorem a_rk_null {n : Nat} : a_rk n .null := fun _ h => by cases h
theorem a_rk_ref {n a : Nat} (h : a < n ∨ a_SC ≤ a) : a_rk n (.ref a) := fun _ e => by cases e; exact h
theorem a_rk_mono {n n' : Nat} {v : Value} (h : a_rk n v) (hn : n ≤ n') : a_rk n' v := fun a e => (h a e).elim (fun q => Or.inl (Nat.lt_of_lt_of_le q hn)) Or.inr
noncomputable def a_ex (n : Nat) (θ θ' : Nat → Nat) : Prop := ∀ x : Nat, x < n ∨ a_SC ≤ x → θ' x = θ x
theorem a_ex_rf {n : Nat} {θ : Nat → Nat} : a_ex n θ θ := fun _ _ => rfl
theorem a_ex_tr {n n' : Nat} {θ θ' θ'' : Nat → Nat} (h : a_ex n θ θ') (h' : a_ex n' θ' θ'') (hn : n ≤ n') : a_ex n θ θ'' := fun x hx => by
  rw [h' x (hx.elim (fun q => Or.inl (Nat.lt_of_lt_of_le q hn)) Or.inr), h x hx]
theorem a_V_ex {n : Nat} {θ θ' : Nat → Nat} {v : Value} (h : a_ex n θ θ') (hv : a_rk n v) : a_V θ' v = a_V θ v := by
  cases v with
  | ref a => show Value.ref (θ' a) = Value.ref (θ a); rw [h a (hv a rfl)]
  | _ => rfl
theorem a_Vs_ex {n : Nat} {θ θ' : Nat → Nat} {vs : List Value} (h : a_ex n θ θ') (hv : ∀ v ∈ vs, a_rk n v) : vs.map (a_V θ') = vs.map (a_V θ) :=
  List.map_congr_left fun v hq => a_V_ex h (hv v hq)
noncomputable def a_wf (n : Nat) (w : AW) : Prop := ∀ (k c : Nat) (fs : List Value), w[k]? = some (.inr (c, fs)) → ∀ v ∈ fs, a_rk n v
theorem a_C_ex {cA : Nat → ClassId} {θ θ' : Nat → Nat} {w : AW} (h : a_ex w.length θ θ') (hw : a_wf w.length w) : a_C cA θ' w = a_C cA θ w := by
  apply List.ext_getElem?
  intro i
  rw [a_C_at, a_C_at]
  cases hi : w[i]? with
  | none => rfl
  | some e =>
    have hl : i < w.length := (List.getElem?_eq_some_iff.mp hi).1
    have e2 : a_E cA θ' e = a_E cA θ e := by
      rcases e with ⟨t, l | l⟩ | ⟨c, fs⟩
      · rfl
      · rfl
      · show Sum.inr (c, fs.map (a_V θ')) = Sum.inr (c, fs.map (a_V θ))
        rw [a_Vs_ex h (hw i c fs hi)]
    simp [h i (Or.inl hl), e2]
theorem a_wf_set {w : AW} {k : Nat} {e : AE} (hw : a_wf w.length w) (he : ∀ (c : Nat) (fs : List Value), e = .inr (c, fs) → ∀ v ∈ fs, a_rk w.length v) : a_wf (w.set k e).length (w.set k e) := by
  intro i c fs hi v hv
  rw [List.length_set]
  rw [List.getElem?_set] at hi
  by_cases hk : k = i
  · rw [if_pos hk] at hi
    split at hi
    · exact he c fs (Option.some.inj hi) v hv
    · cases hi
  · rw [if_neg hk] at hi
    exact hw i c fs hi v hv
theorem a_wf_push {w : AW} {e : AE} (hw : a_wf w.length w) (he : ∀ (c : Nat) (fs : List Value), e = .inr (c, fs) → ∀ v ∈ fs, a_rk (w.length + 1) v) : a_wf (w ++ [e]).length (w ++ [e]) := by
  intro i c fs hi v hv
  rw [List.length_append, List.length_singleton]
  rcases Nat.lt_or_ge i w.length with q | q
  · rw [List.getElem?_append_left q] at hi
    exact a_rk_mono (hw i c fs hi v hv) (Nat.le_succ _)
  · rw [List.getElem?_append_right q] at hi
    rcases Nat.eq_zero_or_pos (i - w.length) with z | z
    · rw [z] at hi
      exact he c fs (Option.some.inj hi) v hv
    · rw [List.getElem?_eq_none (by rw [List.length_singleton]; exact z)] at hi
      cases hi
noncomputable def a_ty (cA : Nat → ClassId) : List (ClassId × FieldType) := [(cA 0, .int), (cA 1, .byte), (cA 2, .long)]
/-- what stands apart from the world: the text constants, the statics that are read, the nest's words, the script -/
noncomputable def a_Env (adK adV : Nat → Nat) (b : Nat) (sc : List Int32) (A : Nat → Prop) (U : State) (H : Heap) : Prop :=
  (∀ i : Nat, i < sN → vk_R (RN (sC i)) (sP i) (sT i) (adK i) U ∧ vk_S 1 [(sB i).length] [sB i] (fun _ => adK i) (fun _ => adV i) A U H) ∧
  vx_Zq Bundle.tN "UNASSIGNED_STACK" Bundle.steD A U H ∧ vx_Zq Bundle.tN "SUPPRESSED_SENTINEL" Bundle.listD A U H ∧
  va_Z "java/lang/String" "COMPACT_STRINGS" "Z" (.int 1) A U H ∧ va_Zq "jdk/internal/util/Preconditions" "SIOOBE_FORMATTER" "Ljava/util/function/BiFunction;" A U H ∧
  va_Nc (xNm 101) (xNm 100) U ∧ (∀ w ∈ AWN, va_Nw w U) ∧
  va_X b sc.length (fun i => sc.getD i 0) U H ∧ b < H.size ∧ ¬ A b
theorem a_hw_warm {w : Cond} (h : a_hw w = true) {s U : State} (hW : s.WarmedH U.vm) (hZ : va_Nw w s) : va_Nw w U := by
  cases w with
  | methodLinkNest a i x h => exact va_Nw.warmM hW hZ
  | castable a b => exact va_Nw.warmC hW hZ
  | declares x => exact va_Nw.warmD hW hZ
  | _ => cases h
theorem a_Env.warm {adK adV : Nat → Nat} {b : Nat} {sc : List Int32} {A : Nat → Prop} {s U : State} {H : Heap} (hW : s.WarmedH U.vm) (h : a_Env adK adV b sc A s H) : a_Env adK adV b sc A U H := by
  obtain ⟨h1, h2, h3, h4, h5, h6, h9, h10, h11⟩ := h
  have hv := hW.alike
  exact ⟨fun i hi => ⟨vk_R.warm hW (h1 i hi).1, vk_S.moved hv (h1 i hi).2⟩, vx_Zq.moved hv h2, vx_Zq.moved hv h3, va_Z.moved hv h4, va_Zq.moved hv h5, va_Nc.moved hv h6, fun w hw => a_hw_warm (List.all_eq_true.mp AWN_hw w hw) hW (h9 w hw), va_X.moved hv h10, h11⟩
theorem a_Env.kept {adK adV : Nat → Nat} {b : Nat} {sc : List Int32} {A : Nat → Prop} {U : State} {H H1 : Heap} (h : a_Env adK adV b sc A U H) (hz : H.size ≤ H1.size) (hq : ∀ a : Nat, a < H.size → ¬ A a → H1[a]? = H[a]?) : a_Env adK adV b sc A U H1 := by
  obtain ⟨h1, h2, h3, h4, h5, h6, h9, h10, h11, h12⟩ := h
  exact ⟨fun i hi => ⟨(h1 i hi).1, (h1 i hi).2.kept hq⟩, h2.kept hq, h3.kept hq, h4.kept hq, h5.kept hq, h6, h9, h10.kept (hq b h11 h12), Nat.lt_of_lt_of_le h11 hz, h12⟩
theorem a_Env.narrow {adK adV : Nat → Nat} {b : Nat} {sc : List Int32} {A B : Nat → Prop} {U : State} {H : Heap} (h : a_Env adK adV b sc A U H) (hAB : ∀ q, B q → A q) : a_Env adK adV b sc B U H := by
  obtain ⟨h1, h2, h3, h4, h5, h6, h9, h10, h11, h12⟩ := h
  exact ⟨fun i hi => ⟨(h1 i hi).1, (h1 i hi).2.narrow hAB⟩, h2.narrow hAB, h3.narrow hAB, h4.narrow hAB, h5.narrow hAB, h6, h9, h10, h11, fun z => h12 (hAB _ z)⟩
/-- the world, where it lies now -/
noncomputable def a_I (D : va_G) (cA : Nat → ClassId) (adK : Nat → Nat) (b : Nat) (A : Nat → Prop) (s : State) (H : Heap) (locs : List Loc) (θ : Nat → Nat) (w : AW) : Prop :=
  va_P D vwCl (a_C cA θ w) H ∧ va_D A (a_C cA θ w) ∧ va_S A s.heap H locs ∧ a_wf w.length w ∧ w.length ≤ a_SC ∧ θ a_SC = b ∧ ∀ i : Nat, i < sN → θ (a_SB + i) = adK i
/-- the frame's own: its locals, its stack -/
noncomputable def a_F (θ : Nat → Nat) (w : AW) (n : Nat) (sl : Array Slot) (ls : AL) (st : List Value) : Prop :=
  lv_has sl n (ls.map fun q => (q.1, a_V θ q.2)) ∧ (∀ q ∈ ls, a_rk w.length q.2) ∧ ∀ v ∈ st, a_rk w.length v
/-- the room for d more calls -/
noncomputable def a_lo (d : Nat) : Nat := 100 * d + 300
noncomputable def a_X (adK adV : Nat → Nat) (b : Nat) (sc : List Int32) (D : va_G) (cA : Nat → ClassId) (A : Nat → Prop) (p : Program) (l : Launch) (R : Room) (s : State) (m : MethodId) (args : Array Value) (meth : Method) (c : Code) (d k : Nat) : Prop :=
  (p.tables.exec = Jvm.exec ∧ c.code = mB k ∧ c.maxLocals = mX k ∧ s.vm.findClass (RN (mK k)) = some m.cls ∧ (∀ w ∈ ALLW, w.before args s = true)) ∧ meth.locks = false ∧ l.stackTraces = false ∧ (mD k = 2 → meth.name = "<init>") ∧ c.exceptionTable.toList = tableOf (mH k) ∧
  va_K D vwCl (a_ty cA) s ∧ a_Env adK adV b sc A s s.heap ∧ (∀ q : Nat, s.heap.size ≤ q → A q) ∧ d ≤ R.frames ∧ a_lo d ≤ R.locals ∧ k < mN
theorem a_s1_map (θ : Nat → Nat) (ls : AL) (i : Nat) (v : Value) : (i, a_V θ v) :: (ls.map fun q => (q.1, a_V θ q.2)).filter (fun q => !(q.1 == i) && !(q.1 + 1 == i && q.2.category == 2)) = (a_s1 ls i v).map fun q => (q.1, a_V θ q.2) := by
  simp [a_s1, List.filter_map, Function.comp_def, a_V_cat]
theorem a_s2_map (θ : Nat → Nat) (ls : AL) (i : Nat) (v : Value) : (i, a_V θ v) :: (ls.map fun q => (q.1, a_V θ q.2)).filter (fun q => !(q.1 == i) && (!(q.1 == i + 1) && !(q.1 + 1 == i && q.2.category == 2))) = (a_s2 ls i v).map fun q => (q.1, a_V θ q.2) := by
  simp [a_s2, List.filter_map, Function.comp_def, a_V_cat]
theorem a_s1_ok {n : Nat} {ls : AL} {i : Nat} {v : Value} (h : ∀ q ∈ ls, a_rk n q.2) (hv : a_rk n v) : ∀ q ∈ a_s1 ls i v, a_rk n q.2 := by
  intro q hq
  rcases List.mem_cons.mp hq with rfl | hq
  · exact hv
  · exact h q (List.mem_filter.mp hq).1
theorem a_s2_ok {n : Nat} {ls : AL} {i : Nat} {v : Value} (h : ∀ q ∈ ls, a_rk n q.2) (hv : a_rk n v) : ∀ q ∈ a_s2 ls i v, a_rk n q.2 := by
  intro q hq
  rcases List.mem_cons.mp hq with rfl | hq
  · exact hv
  · exact h q (List.mem_filter.mp hq).1
theorem a_F.at {θ : Nat → Nat} {w : AW} {n : Nat} {sl : Array Slot} {ls : AL} {st : List Value} (h : a_F θ w n sl ls st) {i : Nat} {v : Value} (hv : a_lk ls i = some v) : sl[i]? = some (.val (a_V θ v)) :=
  h.1.2.2 (i, a_V θ v) (List.mem_map.mpr ⟨(i, v), a_lk_mem hv, rfl⟩)
theorem a_F.known {θ : Nat → Nat} {w : AW} {n : Nat} {sl : Array Slot} {ls : AL} {st : List Value} (h : a_F θ w n sl ls st) {i : Nat} {v : Value} (hv : a_lk ls i = some v) : a_rk w.length v := h.2.1 (i, v) (a_lk_mem hv)
theorem a_F.st {θ : Nat → Nat} {w : AW} {n : Nat} {sl : Array Slot} {ls : AL} {st st' : List Value} (h : a_F θ w n sl ls st) (h' : ∀ v ∈ st', a_rk w.length v) : a_F θ w n sl ls st' := ⟨h.1, h.2.1, h'⟩
theorem a_F.w {θ : Nat → Nat} {w w' : AW} {n : Nat} {sl : Array Slot} {ls : AL} {st : List Value} (h : a_F θ w n sl ls st) (e : w'.length = w.length) : a_F θ w' n sl ls st := ⟨h.1, by rw [e]; exact h.2.1, by rw [e]; exact h.2.2⟩
/-- .. seen with the addresses of later -/
theorem a_F.ex {θ θ' : Nat → Nat} {w w' : AW} {n : Nat} {sl : Array Slot} {ls : AL} {st : List Value} (h : a_F θ w n sl ls st) (e : a_ex w.length θ θ') (hl : w.length ≤ w'.length) : a_F θ' w' n sl ls st := by
  refine ⟨?_, fun q hq => a_rk_mono (h.2.1 q hq) hl, fun v hv => a_rk_mono (h.2.2 v hv) hl⟩
  have e1 : (ls.map fun q => (q.1, a_V θ' q.2)) = ls.map fun q => (q.1, a_V θ q.2) := List.map_congr_left fun q hq => by rw [a_V_ex e (h.2.1 q hq)]
  rw [e1]
  exact h.1
/-! facts of the tables -/
theorem a_vw {c : Nat} (h : c < 9) : vwCl[c]? = some (RN c, TF c, NF c) := by
  match c, h with
  | 0, _ => rfl
  | 1, _ => rfl
  | 2, _ => rfl
  | 3, _ => rfl
  | 4, _ => rfl
  | 5, _ => rfl
  | 6, _ => rfl
  | 7, _ => rfl
  | 8, _ => rfl
theorem a_tyF {c : Nat} (h : c < 9) : ∀ k : Nat, k < NF c → parseFieldDescriptor (TF c k).2.2.1 = some (YF c k) := by
  match c, h with
  | 0, _ => exact tyX0_ok
  | 1, _ => exact tyX1_ok
  | 2, _ => exact tyX2_ok
  | 3, _ => exact tyX3_ok
  | 4, _ => exact tyX4_ok
  | 5, _ => exact tyX5_ok
  | 6, _ => exact tyX6_ok
  | 7, _ => exact tyX7_ok
  | 8, _ => exact tyX8_ok
theorem a_nmF {c : Nat} (h : c < 9) : ∀ a : Nat, a < NF c → ∀ b : Nat, b < NF c → a ≠ b → (TF c a).2.1 ≠ (TF c b).2.1 := by
  match c, h with
  | 0, _ => exact nmX0
  | 1, _ => exact nmX1
  | 2, _ => exact nmX2
  | 3, _ => exact nmX3
  | 4, _ => exact nmX4
  | 5, _ => exact nmX5
  | 6, _ => exact nmX6
  | 7, _ => exact nmX7
  | 8, _ => exact nmX8
theorem a_inC : ∀ w ∈ AWC, w ∈ ALLW := fun _ h => List.mem_append_right _ (List.mem_append_right _ (List.mem_append_right _ (List.mem_append_left _ h)))
theorem a_inK : ∀ w ∈ AWK, w ∈ ALLW := fun _ h => List.mem_append_right _ (List.mem_append_right _ (List.mem_append_right _ (List.mem_append_right _ (List.mem_append_left _ h))))
theorem a_inB : ∀ w ∈ AWB, w ∈ ALLW := fun _ h => List.mem_append_right _ (List.mem_append_right _ (List.mem_append_right _ (List.mem_append_right _ (List.mem_append_right _ (List.mem_append_left _ h)))))
theorem a_inJ : ∀ w ∈ AWJ, w ∈ ALLW := fun _ h => List.mem_append_right _ (List.mem_append_right _ (List.mem_append_right _ (List.mem_append_right _ (List.mem_append_right _ (List.mem_append_right _ (List.mem_append_left _ h))))))
theorem a_inX : ∀ w ∈ AWX, w ∈ ALLW := fun _ h => List.mem_append_right _ (List.mem_append_right _ (List.mem_append_right _ (List.mem_append_right _ (List.mem_append_right _ (List.mem_append_right _ (List.mem_append_right _ h))))))
theorem a_inU {c : Nat} (h : c < 9) : ∀ w ∈ u_ws (RN c) (TF c) (NF c), w ∈ ALLW := fun w hw => a_inC _ (List.mem_append_right _ (List.mem_flatMap.mpr ⟨c, List.mem_range.mpr h, List.mem_cons_of_mem _ hw⟩))
theorem a_inI {c : Nat} (h : c < 10) : Cond.initialized (RN c) ∈ ALLW := a_inC _ (List.mem_append_left _ (List.mem_map.mpr ⟨c, List.mem_range.mpr h, rfl⟩))
theorem a_inN {c : Nat} (h : c < 9) : Cond.instantiable (RN c) (NF c) ∈ ALLW := a_inC _ (List.mem_append_right _ (List.mem_flatMap.mpr ⟨c, List.mem_range.mpr h, List.mem_cons_self⟩))
theorem a_inF {c : Nat} (h : c < 10) {q : Nat × Nat × Nat} (hq : q ∈ kF c) : wF c q ∈ ALLW := List.mem_append_left _ (List.mem_flatMap.mpr ⟨c, List.mem_range.mpr h, List.mem_map.mpr ⟨q, hq, rfl⟩⟩)
theorem a_inM {c : Nat} (h : c < 10) {q : Nat × Nat × Nat} (hq : q ∈ kM c) (ht : ¬ q.2.1 = 1) : wM c q ∈ ALLW := List.mem_append_right _ (List.mem_append_left _ (List.mem_flatMap.mpr ⟨c, List.mem_range.mpr h, List.mem_map.mpr ⟨q, List.mem_filter.mpr ⟨hq, by
  cases hb : Nat.beq q.2.1 1 with
  | true => exact absurd (Nat.eq_of_beq_eq_true hb) ht
  | false => rfl⟩, rfl⟩⟩))
theorem a_inMN {c : Nat} (h : c < 10) {q : Nat × Nat × Nat} (hq : q ∈ kM c) (ht : q.2.1 = 1) : wM c q ∈ AWN := List.mem_append_left _ (List.mem_flatMap.mpr ⟨c, List.mem_range.mpr h, List.mem_map.mpr ⟨q, List.mem_filter.mpr ⟨hq, by rw [ht]; rfl⟩, rfl⟩⟩)
theorem a_inKX {c : Nat} (h : c < 10) {q : Nat × Nat} (hq : q ∈ kX c) : wX c q ∈ ALLW := a_inK _ (List.mem_flatMap.mpr ⟨c, List.mem_range.mpr h, List.mem_append_left _ (List.mem_map.mpr ⟨q, hq, rfl⟩)⟩)
theorem a_inKI {c : Nat} (h : c < 10) {q : Nat × Int32} (hq : q ∈ kI c) : wI c q ∈ ALLW := a_inK _ (List.mem_flatMap.mpr ⟨c, List.mem_range.mpr h, List.mem_append_right _ (List.mem_append_left _ (List.mem_map.mpr ⟨q, hq, rfl⟩))⟩)
theorem a_inKL {c : Nat} (h : c < 10) {q : Nat × Int64} (hq : q ∈ kL c) : wL c q ∈ ALLW := a_inK _ (List.mem_flatMap.mpr ⟨c, List.mem_range.mpr h, List.mem_append_right _ (List.mem_append_right _ (List.mem_map.mpr ⟨q, hq, rfl⟩))⟩)
theorem a_inDW {k : Nat} (h : k + 1 < mN) : ∀ w ∈ wD k, w ∈ ALLW := fun w hw => List.mem_append_right _ (List.mem_append_right _ (List.mem_append_left _ (a_inD (by unfold mN at h; omega) w hw)))
theorem kF_ok : ((List.range 10).all fun c => (kF c).all fun q => decide (q.2.1 < 9) && (decide (q.2.2 < NF q.2.1) && decide ((TF q.2.1 q.2.2).1 = RN q.2.1))) = true := by decide +kernel
theorem a_kF {c x : Nat} {q : Nat × Nat} (hc : c < 10) (h : a_lk (kF c) x = some q) : (q.1 < 9 ∧ q.2 < NF q.1 ∧ (TF q.1 q.2).1 = RN q.1) ∧ wF c (x, q) ∈ ALLW := by
  have hm := a_lk_mem h
  refine ⟨?_, a_inF hc hm⟩
  have h1 := List.all_eq_true.mp (List.all_eq_true.mp kF_ok c (List.mem_range.mpr hc)) _ hm
  simpa using h1
theorem mPb_f {k : Nat} (h : k < mN) : (∀ q ∈ mC k, a_lenOk q.2.1 q.2.2 = true) ∧ plainName (mY k).cls = true ∧ (mY k).cls = RN (mK k) ∧ (parseMethodDescriptor (mY k).desc).map (fun d => d.parameters.length) = some (mV k) ∧ mX k ≤ 60 ∧ ((mY k).cls ≠ "java/lang/invoke/MethodHandle" ∧ (mY k).cls ≠ "java/lang/invoke/VarHandle") ∧ mK k < 10 ∧ (mD k = 2 ↔ (mY k).name = "<init>") ∧ (mD k = 2 → mR k = none) := by
  have h1 := mPb_ok h
  unfold mPb at h1
  simp only [Bool.and_eq_true, List.all_eq_true, decide_eq_true_eq] at h1
  obtain ⟨q1, q2, q3, q4, q5, q6, q7, q8, q9⟩ := h1
  refine ⟨q1, q2, q3, q4, q5, q6, q7, ?_, fun z => ?_⟩
  · have := eq_of_beq q8
    exact decide_eq_decide.mp this
  · simpa [z] using q9
theorem a_dec {k pc len : Nat} {i : Instr} (h : k < mN) (hd : mLk k pc = some (i, len)) : decode (mB k) pc = .ok (i, len) := by
  have h1 := mPd_ok h
  unfold mPd at h1
  have h2 := List.all_eq_true.mp h1 (pc, i, len) (mLk_mem hd)
  exact of_decide_eq_true h2
theorem a_declen {k pc len : Nat} {i : Instr} (h : k < mN) (hd : mLk k pc = some (i, len)) : a_lenOk i len = true := (mPb_f h).1 (pc, i, len) (mLk_mem hd)
/-- the decoded row of an instruction that is no switch -/
theorem a_dec1 {k pc len n : Nat} {i : Instr} (h : k < mN) (hd : mLk k pc = some (i, len)) (hi : a_lenOk i len = Nat.beq len n) : decode (mB k) pc = .ok (i, n) := by
  have h1 := a_declen h hd
  rw [hi] at h1
  have h2 : len = n := Nat.eq_of_beq_eq_true h1
  rw [← h2]
  exact a_dec h hd
end
section
/-! ===== 'throw new E("text")' of an exception whose constructor calls by any index (the proofs follow the library's for index 7: BundleChainS, BundleOwnThrow, and the kit's vx_throwSW) ===== -/
theorem a_chain {args : Array Value} {s : State} {pl : Platform} (hpl : pl.magicAccessors = ({} : Platform).magicAccessors) {top : MethodId} (htop : s.methodNamed? (Bundle.initS Bundle.tN) = some top)
    {ix : Nat} {rx : ByteArray} (x0 : decode rx 0 = .ok (.aload_n 0, 1)) (x1 : decode rx 1 = .ok (.aload_n 1, 1)) (x2 : decode rx 2 = .ok (.invokespecial ix, 3)) (x5 : decode rx 5 = .ok (.return_, 1))
    {X : String} (hX : Bundle.fit X = true) (h : ∀ w ∈ a_xc X ix rx, w.before args s = true) :
    ∃ (P1 : PassC) (Ps : List PassC), Ps.length = 2 ∧ P1.LinksS pl s ∧ (∀ P, P ∈ Ps → P.LinksS pl s) ∧ s.methodNamed? (Bundle.initS X) = some P1.m ∧
      P1.sup = firstOf top (Ps.map (·.toPassT)) ∧ PassesOn top (Ps.map (·.toPassT)) := by
  obtain ⟨P, L, hm, hs⟩ := PassC.ofS_atoms (args := args) (s := s) hpl (X := X) (Y := xRt) (Bundle.fit_spec hX).1 (by decide) x0 x1 x2 x5 (fun c hc => h c (List.mem_append_left _ hc))
  obtain ⟨P', Ps, hlen, L', hL, hm', hsup, hpass⟩ := Bundle.chainS (args := args) hpl htop ["java/lang/Exception"] xRt (by decide +kernel) (by decide +kernel) (fun c hc => h c (List.mem_append_right _ hc))
  refine ⟨P, P' :: Ps, by simp [hlen], L, ?_, hm, Option.some.inj (hs.symm.trans hm'), hsup, hpass⟩
  intro Q hQ
  rcases List.mem_cons.mp hQ with rfl | hQ
  · exact L'
  · exact hL Q hQ
section ATH
variable {p : Program} {l : Launch} {e : Env} {R : Room} {s : State} {m : MethodId} {args : Array Value} {below : List Frame} {meth : Method} {c : Code} {W9 : State} {locs : List Loc} {cells slots : Nat}
set_option maxHeartbeats 1000000 in
theorem a_ctor (X : Stand p l e R s m args below meth c W9 locs cells slots) (hexec : p.tables.exec = Jvm.exec) (htr : e.platform.stackTraces = false) {own cls : String} {ic ix : Nat} {rx : ByteArray}
    (x0 : decode rx 0 = .ok (.aload_n 0, 1)) (x1 : decode rx 1 = .ok (.aload_n 1, 1)) (x2 : decode rx 2 = .ok (.invokespecial ix, 3)) (x5 : decode rx 5 = .ok (.return_, 1))
    (hown : s.vm.findClass own = some m.cls) (hcls : Bundle.fit cls = true) (h : ∀ a ∈ a_xAll own ic cls ix rx, a.before args s = true)
    (hlocs : ∀ x ∈ locs, ∀ cell, s.heap[x.base]? = some cell → cell.vm.isStatics = false)
    {a : Addr} {cX : ClassId} {kX : Class} (hfoundX : s.vm.findClass cls = some cX) (hkX : s.vm.classes[cX]? = some kX) (hcell : W9.heap[a]? = some (freshCell cX kX)) (hnew : s.heap.size ≤ a)
    {msg : Value} (hmsg : msg.isRef = true)
    {g : JFrame} (hg : g.method = m) (hsize : g.locals.size = c.maxLocals) (hlocked : g.locked = none) (hentered : g.entered = []) {rest : List Value} (hstack : g.stack = msg :: .ref a :: .ref a :: rest)
    (hd6 : decode c.code g.pc = .ok (.invokespecial ic, 3)) (hd9 : decode c.code (g.pc + 3) = .ok (.athrow, 1)) (hout : ∀ x ∈ c.exceptionTable.toList, covers x (g.pc + 3) = false)
    (hRframes : 5 < R.frames) (hRlocals : 2 * g.monitorRoom + ((Value.ref a :: rest).map fun v => v.category).sum + 81 ≤ R.locals) (hlocks : meth.locks = false) :
    ∃ U : State, Steps p.tables e below (W9.setTop g) U ∧ U.status = .running ∧ Ended U below (.threw a) ∧ s.WarmedH U.vm ∧ s.sameButNew ({ U with vm := s.vm } : State) locs cells slots ∧
      ∃ ce, U.heap[a]? = some ce ∧ s.vm.findClass cls = some ce.cls ∧ ce.vm = .none := by
  have howns : e.platform.frameOwnsMonitors = true := by rw [X.admits.platform]
  have hfin : e.platform.finalization = false := by rw [X.admits.platform]
  have hpl : e.platform.magicAccessors = ({} : Platform).magicAccessors := by rw [X.admits.platform]
  have inT : ∀ x ∈ Bundle.throwableAtoms, x ∈ a_xAll own ic cls ix rx := fun x hx => List.mem_append_left _ hx
  have inS : ∀ x ∈ Bundle.throwableSAtoms, x ∈ a_xAll own ic cls ix rx := fun x hx => List.mem_append_right _ (List.mem_append_left _ hx)
  have inC : ∀ x ∈ a_xc cls ix rx, x ∈ a_xAll own ic cls ix rx := fun x hx => List.mem_append_right _ (List.mem_append_right _ (List.mem_append_left _ hx))
  have inR : ∀ x, x ∈ _ → x ∈ a_xAll own ic cls ix rx := fun x hx => List.mem_append_right _ (List.mem_append_right _ (List.mem_append_right _ hx))
  obtain ⟨T, Z0, L, -, Y⟩ := ThrowableC.of_atoms (args := args) howns hfin hpl (fun x hx => h x (inT x hx))
  obtain ⟨Z, M, LZ, LM, hnZ⟩ := Init0T.ofS_atoms (args := args) hpl L Y (fun x hx => h x (inS x hx))
  obtain ⟨P1, Ps, hlen, L1, hL, hP1m, hlink1, hlink⟩ := a_chain (args := args) hpl hnZ x0 x1 x2 x5 hcls (fun x hx => h x (inC x hx))
  have hfound : s.vm.findClass cls = some P1.m.cls := findClass_of_methodNamed hP1m
  cases Option.some.inj (hfoundX.symm.trans hfound)
  obtain ⟨c1, kX', hc1, hk, hord, -, -, hn6⟩ := Cond.instantiable_spec (h (.instantiable cls 6) (inR _ (by simp)))
  cases Option.some.inj (hc1.symm.trans hfound)
  cases Option.some.inj (hkX.symm.trans hk)
  have hsel0 : selectMethod e.platform s.vm P1.m.cls T.fill0 = .method T.fill0 := by
    obtain ⟨c2, r2, m2, q1, q2, q3, q4, -⟩ := Cond.selects_spec (h (.selects cls Bundle.tFill0 Bundle.tFill0) (inR _ (by simp)))
    cases Option.some.inj (q1.symm.trans hfound)
    cases Option.some.inj (q2.symm.trans (State.methodFound?_of_named Y.fill0 (by decide)))
    cases Option.some.inj (q3.symm.trans Y.fill0)
    rw [Launch.admits_selectMethod X.admits]; exact q4
  have hselF : selectMethod e.platform s.vm P1.m.cls T.fill = .method T.fill := by
    obtain ⟨c2, r2, m2, q1, q2, q3, q4, -⟩ := Cond.selects_spec (h (.selects cls Bundle.tFill Bundle.tFill) (inR _ (by simp)))
    cases Option.some.inj (q1.symm.trans hfound)
    cases Option.some.inj (q2.symm.trans (State.methodFound?_of_named Y.fill (by decide)))
    cases Option.some.inj (q3.symm.trans Y.fill)
    rw [Launch.admits_selectMethod X.admits]; exact q4
  obtain ⟨cellS0, hcS0, hiss⟩ := Y.statics
  obtain ⟨u0, hu0⟩ := Cond.staticRefV Y.unassigned L.unassignedStatic L.statics hcS0 hiss (h (.isRef (.static Bundle.tN "UNASSIGNED_STACK" Bundle.steD)) (inR _ (by simp)))
  obtain ⟨sen, hsen⟩ := Cond.staticRefV Y.sentinel L.sentinelStatic L.statics hcS0 hiss (h (.isRef (.static Bundle.tN "SUPPRESSED_SENTINEL" Bundle.listD)) (inR _ (by simp)))
  obtain ⟨ci198, i198, fB, hk198, hg198, ha198, hsB, -, hnB, htB, hffB⟩ := Cond.ownField (t := .object "java/lang/Object") Y.found L.cls (by decide +kernel) (h (.fieldLink Bundle.tN 198 Bundle.tN "backtrace" "Ljava/lang/Object;") (inR _ (by simp))) (h (.lays Bundle.tN Bundle.tN "backtrace" "Ljava/lang/Object;") (inR _ (by simp))) e.platform hpl
  obtain ⟨cellS, hcS', heS, -, hkeep⟩ := X.same.2.2.2.2.2 T.aS cellS0 hcS0
  have hcellS : W9.heap[T.aS]? = some cellS := hcS'
  have hout' : ∀ i, (⟨T.aS, i⟩ : Loc) ∉ locs := fun i hmem => by
    have := hlocs _ hmem cellS0 hcS0
    rw [hiss] at this; cases this
  have hknownS : cellS.vm ≠ .unknown := by
    rw [heS]; intro hu
    rw [show cellS0.vm = .unknown from hu] at hiss
    cases hiss
  have hneS : T.aS ≠ a := Nat.ne_of_lt (Nat.lt_of_lt_of_le (Array.getElem?_eq_some_iff.mp hcS0).1 hnew)
  obtain ⟨iM, hffM⟩ := Y.msg
  obtain ⟨tyC, dC, hdC, hdnC⟩ := Cond.laysAt hfound hk Y.cause (h (.lays cls Bundle.tN "cause" "Ljava/lang/Throwable;") (inR _ (by simp)))
  obtain ⟨tyS, dS, hdS, hdnS⟩ := Cond.laysAt hfound hk Y.stack (h (.lays cls Bundle.tN "stackTrace" Bundle.steD) (inR _ (by simp)))
  obtain ⟨tyP, dP, hdP, hdnP⟩ := Cond.laysAt hfound hk Y.supp (h (.lays cls Bundle.tN "suppressedExceptions" Bundle.listD) (inR _ (by simp)))
  obtain ⟨tyM, dM, hdM, hdnM⟩ := Cond.laysAt hfound hk hffM (h (.lays cls Bundle.tN "detailMessage" "Ljava/lang/String;") (inR _ (by simp)))
  obtain ⟨tyB, dB, hdB, hdnB⟩ := Cond.laysAt hfound hk hffB (h (.lays cls Bundle.tN "backtrace" "Ljava/lang/Object;") (inR _ (by simp)))
  have bC := Cond.laysApart hdB hdC hdnB hdnC (by rw [hnB, Y.causeName]; decide)
  have bS := Cond.laysApart hdB hdS hdnB hdnS (by rw [hnB, Y.stackName]; decide)
  have bP := Cond.laysApart hdB hdP hdnB hdnP (by rw [hnB, Y.suppName]; decide)
  have hskip : SkipFacts T e.platform s (fun u => u) u0 ((preparedCellV T.toThrowableT (freshCell P1.m.cls kX) a u0 sen).withEntry W9.cur) :=
    ⟨{ ci198 := ci198, i198 := i198, fBack := fB }, ⟨hk198, hg198, ha198, hsB⟩, by
      have := fresh_default (c := P1.m.cls) tyB
      rw [htB] at this
      simpa [preparedCellV, Cell.setSlot, Cell.withEntry, Array.getElem?_setIfInBounds, bC, bS, bP, bC.symm, bS.symm, bP.symm, defaultValue] using this, fun _ _ => rfl⟩
  obtain ⟨tm, methC, cdC, kC, vm₁, hnC, -, -, -, -, -, -, -, hW₁, st1⟩ := Steps.initColdS (tb := p.tables) (e := e) (below := below) (s := s) (U := W9) X.here hexec X.warmed hpl hown (t := Bundle.initS cls) rfl rfl (Bundle.fit_spec hcls).2
    (h (.methodLink own ic (Bundle.initS cls)) (inR _ (by simp))) (h (.instanceMethod (Bundle.initS cls)) (inC _ (List.mem_append_left _ (by simp [Bundle.passSAtoms])))) (bytes := rx) (maxL := 2) (h (.code (Bundle.initS cls) rx 2 none) (inC _ (List.mem_append_left _ (by simp [Bundle.passSAtoms]))))
    (f := g) hg (a := a) (msg := msg) (rest := .ref a :: rest) hstack hd6
  cases Option.some.inj (hnC.symm.trans hP1m)
  have X₁ := X.noted hW₁
  obtain ⟨vm₂, X₂, st2⟩ := X₁.ctorMessageOffV hexec (g := { g with stack := .ref a :: rest }) hg hsize T L Z LZ M LM (P1 :: Ps)
    (fun P hP => by rcases List.mem_cons.mp hP with rfl | hP; exact L1; exact hL P hP) ⟨hlink1, hlink⟩ (u0 := u0) (sen := sen) (self := a) hmsg (cell := freshCell P1.m.cls kX) (cellS := cellS)
    hcell (fun _ => by simp) (by simp) rfl rfl hsel0 hselF hcellS hneS hknownS (by rw [hkeep _ (hout' _)]; exact hu0) (by rw [hkeep _ (hout' _)]; exact hsen)
    (Takes.of_laid hk hord tyC (by rw [Y.causeType]; rfl)) (Takes.of_laid hk hord tyS (by rw [Y.stackType]; exact fits_refV_array _ u0)) (Takes.of_laid hk hord tyP (by rw [Y.suppType]; exact fits_refV_object _ sen))
    (Takes.of_laid hk hord tyM (by rw [Y.msgType]; exact fits_refV_object _ ⟨msg, hmsg⟩)) Y.objLocals hskip htr [] hd6
    (by simp only [List.length_cons, hlen]; omega) (by simp only [List.length_cons, hlen]; exact hRlocals)
  obtain ⟨hwalk, hrun, hended, hWU, hsame⟩ := X₂.athrowLeaves hexec (g := { g with stack := .ref a :: rest, pc := g.pc + 3 }) hg hlocked hentered hout (a := a) (rest := rest) rfl hd9
  have hlt : a < ((W9.setVm vm₁).setVm vm₂).heap.size := (Array.getElem?_eq_some_iff.mp hcell).1
  have hU := heapAt_setCell_self (s := (W9.setVm vm₁).setVm vm₂) (plainBareV T.toThrowableT (freshCell P1.m.cls kX) a u0 sen msg) hlt
  refine ⟨_, st1 _ (fun acts => ?_), hrun, hended, hWU, hsame.weaken (fun y hy hlt' => ?_) (Nat.le_refl _) (Nat.le_refl _), _, hU, hfound, rfl⟩
  · rw [doInvoke_state]
    exact st2 _ hwalk
  · rcases List.mem_append.mp hy with h1 | h1
    · exact h1
    · exfalso
      have hb : y.base = a := by
        simp only [List.mem_cons, List.not_mem_nil, or_false] at h1
        rcases h1 with rfl | rfl | rfl | rfl | rfl <;> rfl
      rw [hb] at hlt'
      exact Nat.not_lt.mpr hnew hlt'
variable {H : Heap} {Q : State → Prop} {free : Addr → Prop} {ls : Array Slot} {rest : List Value} {Qc : Array Value → State → Outcome → State → Prop} {XC : String → State → State → Prop}
/-- new; dup; ldc_w; invokespecial; athrow -/
theorem a_throwSW {cc : ByteArray} {pc : Nat} (hexec : p.tables.exec = Jvm.exec) (hb : c.code = cc) (hl : l.stackTraces = false) {own cls text : String} {ik is ic ix mc ms sa : Nat} {rx : ByteArray} {A : Nat → Prop}
    (x0 : decode rx 0 = .ok (.aload_n 0, 1)) (x1 : decode rx 1 = .ok (.aload_n 1, 1)) (x2 : decode rx 2 = .ok (.invokespecial ix, 3)) (x5 : decode rx 5 = .ok (.return_, 1))
    (hown : s.vm.findClass own = some m.cls) (hcls : Bundle.fit cls = true)
    (hk : (Cond.classLink own ik cls).before args s = true) (hini : (Cond.initialized cls).before args s = true) (hstr : vk_R own is text sa s) (hat : ∀ w ∈ (a_xAll own ic cls ix rx).filter vx_no, w.before args s = true)
    (hgood : ∀ w ∈ Cond.classLink own ik cls :: Cond.initialized cls :: (a_xAll own ic cls ix rx).filter vx_no, vx_ot w = true)
    (hU : vx_Zq Bundle.tN "UNASSIGNED_STACK" Bundle.steD A s s.heap) (hN : vx_Zq Bundle.tN "SUPPRESSED_SENTINEL" Bundle.listD A s s.heap) (hS : va_S A s.heap H locs) (hsize : ls.size = c.maxLocals)
    (d0 : decode cc pc = .ok (.new ik, 3)) (d3 : decode cc (pc + 3) = .ok (.dup, 1)) (d4 : decode cc (pc + 4) = .ok (.ldc_w is, 3)) (d7 : decode cc (pc + 7) = .ok (.invokespecial ic, 3)) (d10 : decode cc (pc + 10) = .ok (.athrow, 1))
    (hout : ∀ x ∈ c.exceptionTable.toList, covers x (pc + 10) = false)
    (hRframes : 5 < R.frames) (hRlocals : (rest.map fun v => v.category).sum + 82 ≤ R.locals) (hRcells : cells + 1 ≤ R.cells) (hRslots : slots + 6 ≤ R.slots) (hlocks : meth.locks = false)
    (hx : ∀ t : State, s.vm.Alike t.vm → H.size ≤ t.heap.size → (∀ q : Nat, q < H.size → t.heap[q]? = H[q]?) → XC cls s t)
    (hf : ∀ z ∈ locs, free z.base) (hc : cells + 1 ≤ mc) (hs : slots + 6 ≤ ms) :
    W p l e R s m args below meth c H locs cells slots (vx_MQ below Qc XC args s mc ms free) (F0 m pc ls rest) := by
  intro T hT X
  have htr : e.platform.stackTraces = false := (show e.platform.stackTraces = l.stackTraces by rw [X.admits.platform]).trans hl
  have Y := vx_rebase X (R' := { frames := R.frames, locals := R.locals, cells := 1, slots := 6 }) (Nat.le_refl _) (Nat.le_refl _) hRcells hRslots
  obtain ⟨s', hA⟩ : ∃ z, z = (T.setVm s.vm).setFrames (.invoking m args :: below) := ⟨_, rfl⟩
  rw [← hA] at Y
  have hvm : s'.vm = s.vm := by rw [hA]; rfl
  have hhp : s'.heap = H := by rw [hA]; exact hT
  have hW0 : s.WarmedH s'.vm := by rw [hvm]; exact State.WarmedH.refl s
  have hat' : ∀ w ∈ (a_xAll own ic cls ix rx).filter vx_no, w.before args s' = true := fun w hw => vx_ot_at hW0 hvm.symm (hgood w (List.mem_cons_of_mem _ (List.mem_cons_of_mem _ hw))) (hat w hw)
  have hk' : (Cond.classLink own ik cls).before args s' = true := vx_ot_at hW0 hvm.symm (hgood _ List.mem_cons_self) hk
  have hini' : (Cond.initialized cls).before args s' = true := vx_ot_at hW0 hvm.symm (hgood _ (List.mem_cons_of_mem _ List.mem_cons_self)) hini
  have hU' : vx_Zq Bundle.tN "UNASSIGNED_STACK" Bundle.steD A s' s'.heap := by rw [hhp]; exact vx_Zq.moved hW0.alike (hU.kept hS.2.1)
  have hN' : vx_Zq Bundle.tN "SUPPRESSED_SENTINEL" Bundle.listD A s' s'.heap := by rw [hhp]; exact vx_Zq.moved hW0.alike (hN.kept hS.2.1)
  have h : ∀ w ∈ a_xAll own ic cls ix rx, w.before args s' = true := vx_own hat' (vx_isRefq hU'.1) (vx_isRefq hN'.1) hU'.2.word hN'.2.word
  have hown' : s'.vm.findClass own = some m.cls := by rw [hvm]; exact hown
  have hins : (Cond.instantiable cls 6).before args s' = true := h _ (List.mem_append_right _ (List.mem_append_right _ (List.mem_append_right _ (by simp))))
  obtain ⟨vm₁, cX, kX, hfX, hkX, -, -, X₁, st1⟩ := Y.newCold hexec (own := own) (C := cls) (index := ik) (n := 6) hown' hk' hins hini'
    (g := F0 m pc ls rest) rfl (by rw [hb]; exact d0) (Nat.le_refl _) (Nat.le_refl _)
  generalize hT1 : (T.setVm vm₁).pushCell { cls := cX, slots := kX.instanceTypes.map defaultValue, vm := .none } = T1 at X₁ st1
  have hcat : (Value.ref T.heap.size).category = 1 := rfl
  have hcellA : T1.heap[T.heap.size]? = some (freshCell cX kX) := by rw [← hT1]; exact State.heap_pushCell_size _ _
  have d3' : decode c.code (pc + 3) = .ok (.dup, 1) := by rw [hb]; exact d3
  have d4' : decode c.code (pc + 4) = .ok (.ldc_w is, 3) := by rw [hb]; exact d4
  have hstr' : vk_R own is text sa s' := vk_R.warm hW0 hstr
  obtain ⟨U, hsteps, hrun, hend, hW, hsame, ce, hce, hcl', hvn⟩ := a_ctor X₁ hexec htr (own := own) (cls := cls) (ic := ic) x0 x1 x2 x5 hown' hcls h (fun x hx => nomatch hx) hfX hkX hcellA (by rw [hhp, hT]; exact Nat.le_refl _) (msg := .ref sa) rfl
    (g := { method := m, pc := pc + 7, locals := ls, stack := .ref sa :: .ref T.heap.size :: .ref T.heap.size :: rest, locked := none }) rfl hsize rfl rfl (rest := rest) rfl
    (by rw [hb]; exact d7) (by rw [hb]; exact d10) hout hRframes (by simp only [List.map_cons, List.sum_cons, hcat]; show 2 * 0 + _ + 81 ≤ _; omega) hlocks
  obtain ⟨f1, f2⟩ := vx_frame hsame
  rw [hhp] at f1 f2
  have hWs : s.WarmedH U.vm := State.WarmedH.trans hW0 hW
  have hcl : s.vm.findClass cls = some ce.cls := by
    have h9 := hcl'
    rw [hvm] at h9
    exact h9
  have hall : s.sameButNew ({ U with vm := s.vm } : State) locs mc ms := by
    subst hA
    obtain ⟨e1, e2⟩ := hsame
    rw [State.setFrames_setFrames] at e1
    have h2 : (T.setVm s.vm).sameButNew ({ U with vm := s.vm } : State) [] (0 + 1) (0 + 6) := ⟨e1, e2⟩
    have h3 := X.same.trans h2
    rw [List.append_nil] at h3
    exact h3.mono hc hs
  refine ⟨U, ?_, .threw T.heap.size, hrun, hend, Or.inr ⟨T.heap.size, rfl, cls, ce, locs, hx U hWs.alike f1 (fun q hq => f2 q hq (fun z hz => nomatch hz)), hce, hvn, hcl, hWs, hall, hf⟩⟩
  refine st1 _ ?_
  show Steps p.tables e below (T1.setTop { method := m, pc := pc + 3, locals := ls, stack := .ref T.heap.size :: rest, locked := none }) _
  jvm_step X₁.here [X₁.here.top, hexec, d3', Value.category]
  exact X₁.ldcStringW hexec (own := own) (text := text) (index := is) (a := sa) hown' hstr'.1 hstr'.2
    (g := { method := m, pc := pc + 4, locals := ls, stack := .ref T.heap.size :: .ref T.heap.size :: rest, locked := none }) rfl d4' _ hsteps
end ATH
end
section
/-! ===== the text constants: length, charAt ===== -/
noncomputable def st_P (q v n : Nat) (bs : List Int32) (A : Nat → Prop) (U : State) : Prop := vk_S 1 [n] [bs] (fun _ => q) (fun _ => v) A U U.heap ∧ va_Z "java/lang/String" "COMPACT_STRINGS" "Z" (.int 1) A U U.heap ∧ va_Zq "jdk/internal/util/Preconditions" "SIOOBE_FORMATTER" "Ljava/util/function/BiFunction;" A U U.heap
noncomputable def st_0 : Nat → Prop := fun _ => False
theorem st_F {s t : State} {H : Heap} (h : s.heap = H) (ht : t.heap = H) : va_F st_0 s t := ⟨by rw [ht, h]; exact Nat.le_refl _, fun q _ _ => by rw [ht, h]⟩
theorem st_P.go {q v n : Nat} {bs : List Int32} {A : Nat → Prop} {s U : State} (hU : U.heap = s.heap) (hW : s.WarmedH U.vm) (h : st_P q v n bs A s) : st_P q v n bs A U := by
  obtain ⟨h1, h2, h3⟩ := h
  unfold st_P
  rw [hU]
  exact ⟨vk_S.moved hW.alike h1, va_Z.moved hW.alike h2, va_Zq.moved hW.alike h3⟩
theorem st_blind {av : List Value} {P : State → Prop} (h : ∀ (U : State) (g : JFrame) (mk : MethodId) (a : Array Value), P U → P (U.calling g mk a)) : FrameBlind (va_Pc av P) := fun a U g mk q => ⟨q.1, h U g mk a q.2⟩
set_option maxHeartbeats 4000000 in
set_option maxRecDepth 100000 in
theorem c_coder (l : Launch) (q v n : Nat) (bs : List Int32) (A : Nat → Prop) : Met l yJ0_coder_7d493 wsJ0_coder_7d493 ({ frames := 0, cells := 0, slots := 0, locals := 0 }) (va_Pc [.ref q] (st_P q v n bs A)) (va_Qi (fun (r : Int32) (_ : Unit) => r = 0) (fun _ _ => True) st_0) 0 0 st_0 := by
  refine Met.ofW (cc := cJ0_coder_7d493) (maxL := 1) (ret := some .byte) (by decide) rfl ?_
  intro p e s m args below meth c s₁ B hml hv
  obtain ⟨rfl, hE, hZ, -⟩ := hv
  have hx := B.exec
  have hb := B.bytes
  have hr := B.returns
  have hts := atoms_spec (ws := wsJ0_coder_7d493) B.pre
  have hown : s.vm.findClass RJ0 = some m.cls := findClass_of_methodNamed B.named
  have hlocks := B.notSynchronized
  have hS : va_S A s.heap s.heap [] := va_S.rf
  have hl := lv_entry ([.ref q]) (n := 1) (Nat.le_of_ble_eq_true rfl)
  rw [lg_entry_eq]
  generalize (lg_sl ([.ref q]) ++ List.replicate (1 - (lg_sl ([.ref q])).length) Slot.unset).toArray = ls at hl ⊢
  have hl : lv_has ls 1 [(0, .ref q)] := hl
  refine va_gets hx hb hZ hS hown (hts (.fieldLink RJ0 38 "java/lang/String" "COMPACT_STRINGS" "Z") (by decide +kernel)) (fun _ h9 => h9) dJ0_coder_7d493_0 ?_
  refine lv_if_eq (tgt := 13) hx hb dJ0_coder_7d493_3 (by decide) (fun h => absurd h (by decide)) (fun _ => ?_)
  refine lv_aload_n hx hb dJ0_coder_7d493_6 rfl (lv_at hl 0 rfl) ?_
  refine vk_getf hx hb (hE.1 0 (by decide)).2.1 hS hown (hts (.fieldLink RJ0 15 "java/lang/String" "coder" "B") (by decide +kernel)) (fun _ h9 => h9) dJ0_coder_7d493_7 ?_
  refine lv_goto (tgt := 14) hx hb dJ0_coder_7d493_10 (by decide) ?_
  exact W.zret hx hb hr (by decide) (fun t ht _ => ⟨⟨0, (), rfl, rfl, trivial⟩, st_F rfl ht⟩) (fun _ h => nomatch h) dJ0_coder_7d493_14
set_option maxHeartbeats 4000000 in
set_option maxRecDepth 100000 in
theorem c_isl (l : Launch) (q v n : Nat) (bs : List Int32) (A : Nat → Prop) : Met l yJ0_isLatin1_aae02 wsJ0_isLatin1_aae02 ({ frames := 0, cells := 0, slots := 0, locals := 0 }) (va_Pc [.ref q] (st_P q v n bs A)) (va_Qi (fun (r : Int32) (_ : Unit) => r = 1) (fun _ _ => True) st_0) 0 0 st_0 := by
  refine Met.ofW (cc := cJ0_isLatin1_aae02) (maxL := 1) (ret := some .boolean) (by decide) rfl ?_
  intro p e s m args below meth c s₁ B hml hv
  obtain ⟨rfl, hE, hZ, -⟩ := hv
  have hx := B.exec
  have hb := B.bytes
  have hr := B.returns
  have hts := atoms_spec (ws := wsJ0_isLatin1_aae02) B.pre
  have hown : s.vm.findClass RJ0 = some m.cls := findClass_of_methodNamed B.named
  have hlocks := B.notSynchronized
  have hS : va_S A s.heap s.heap [] := va_S.rf
  have hl := lv_entry ([.ref q]) (n := 1) (Nat.le_of_ble_eq_true rfl)
  rw [lg_entry_eq]
  generalize (lg_sl ([.ref q]) ++ List.replicate (1 - (lg_sl ([.ref q])).length) Slot.unset).toArray = ls at hl ⊢
  have hl : lv_has ls 1 [(0, .ref q)] := hl
  refine va_gets hx hb hZ hS hown (hts (.fieldLink RJ0 38 "java/lang/String" "COMPACT_STRINGS" "Z") (by decide +kernel)) (fun _ h9 => h9) dJ0_isLatin1_aae02_0 ?_
  refine lv_if_eq (tgt := 17) hx hb dJ0_isLatin1_aae02_3 (by decide) (fun h => absurd h (by decide)) (fun _ => ?_)
  refine lv_aload_n hx hb dJ0_isLatin1_aae02_6 rfl (lv_at hl 0 rfl) ?_
  refine vk_getf hx hb (hE.1 0 (by decide)).2.1 hS hown (hts (.fieldLink RJ0 15 "java/lang/String" "coder" "B") (by decide +kernel)) (fun _ h9 => h9) dJ0_isLatin1_aae02_7 ?_
  refine lv_if_ne (tgt := 17) hx hb dJ0_isLatin1_aae02_10 (by decide) (fun h => absurd rfl h) (fun _ => ?_)
  refine lv_iconst (v := 1) hx hb dJ0_isLatin1_aae02_13 (by decide) ?_
  refine lv_goto (tgt := 18) hx hb dJ0_isLatin1_aae02_14 (by decide) ?_
  exact W.zret hx hb hr (by decide) (fun t ht _ => ⟨⟨1, (), rfl, rfl, trivial⟩, st_F rfl ht⟩) (fun _ h => nomatch h) dJ0_isLatin1_aae02_18
set_option maxHeartbeats 4000000 in
set_option maxRecDepth 100000 in
theorem c_slen (l : Launch) (q v n : Nat) (bs : List Int32) (A : Nat → Prop) : Met l yJ0_length_8abf5 wsJ0_length_8abf5 ({ frames := 1, cells := 0, slots := 0, locals := 24 }) (va_Pc [.ref q] (st_P q v n bs A)) (va_Qi (fun (r : Int32) (_ : Unit) => r = Int32.ofNat n) (fun _ _ => True) st_0) 0 0 st_0 := by
  refine Met.ofW (cc := cJ0_length_8abf5) (maxL := 1) (ret := some .int) (by decide) rfl ?_
  intro p e s m args below meth c s₁ B hml hv
  obtain ⟨rfl, hE, hZ, hq⟩ := hv
  have hx := B.exec
  have hb := B.bytes
  have hr := B.returns
  have hts := atoms_spec (ws := wsJ0_length_8abf5) B.pre
  have hown : s.vm.findClass RJ0 = some m.cls := findClass_of_methodNamed B.named
  have hlocks := B.notSynchronized
  have hS : va_S A s.heap s.heap [] := va_S.rf
  have hS0 : va_S st_0 s.heap s.heap [] := va_S.rf
  have hl := lv_entry ([.ref q]) (n := 1) (Nat.le_of_ble_eq_true rfl)
  rw [lg_entry_eq]
  generalize (lg_sl ([.ref q]) ++ List.replicate (1 - (lg_sl ([.ref q])).length) Slot.unset).toArray = ls at hl ⊢
  have hl : lv_has ls 1 [(0, .ref q)] := hl
  refine lv_aload_n hx hb dJ0_length_8abf5_0 rfl (lv_at hl 0 rfl) ?_
  refine vk_getf hx hb (hE.1 0 (by decide)).2.2.1 hS hown (hts (.fieldLink RJ0 9 "java/lang/String" "value" "[B") (by decide +kernel)) (fun _ h9 => h9) dJ0_length_8abf5_1 ?_
  refine va_tlen hx hb (hE.1 0 (by decide)).2.2.2 hS rfl dJ0_length_8abf5_4 ?_
  refine lv_aload_n hx hb dJ0_length_8abf5_5 rfl (lv_at hl 0 rfl) ?_
  refine va_calli (va_runV (As := []) (rest := [.int (Int32.ofNat n)]) ⟨hx, hb, hml, hown, hts⟩ (c_coder l q v n bs A) (cwV 0 hts gJ0_length_8abf5_J0_coder_7d493 rfl rfl rfl (by decide +kernel) ⟨Nat.le_of_ble_eq_true rfl, Nat.le_of_ble_eq_true rfl⟩)
    ⟨st_blind fun U g mk a h => st_P.go rfl (State.WarmedH.refl U) h, vk_recv (i := 0) hE (by decide) hS, fun U hU hW => ⟨rfl, st_P.go hU hW ⟨hE, hZ, hq⟩⟩⟩ rfl rfl hl.1 rfl (lv_room (Nat.le_of_ble_eq_true rfl)) dJ0_length_8abf5_6 ⟨Nat.zero_le _, Nat.zero_le _⟩) hS0 (fun _ _ h => h.elim) (fun _ h => h.elim)
    (fun r u t H1 locs ht hvm hw hB hz1 hk1 hS1 => ?_)
  refine lv_ishr hx hb dJ0_length_8abf5_9 ?_
  have e1 : (Int32.ofNat n) >>> (r &&& 31) = Int32.ofNat n := by rw [show r = 0 from hw]; exact sb_shr0 _
  rw [e1]
  exact W.iret hx hb hr (fun t2 ht2 _ => ⟨⟨_, (), rfl, rfl, trivial⟩, hS1.F ht2⟩) hS1.2.2 dJ0_length_8abf5_10
set_option maxHeartbeats 4000000 in
set_option maxRecDepth 100000 in
theorem c_pre (l : Launch) (i n : Int32) (z : Option Nat) (h0 : ¬ i < 0) (h1 : i < n) : Met l yJ3_checkIndex_8e157 wsJ3_checkIndex_8e157 ({ frames := 0, cells := 0, slots := 0, locals := 0 }) (va_Pc [.int i, .int n, va_rf z] (fun _ => True)) (va_Qi (fun (r : Int32) (_ : Unit) => r = i) (fun _ _ => True) st_0) 0 0 st_0 := by
  refine Met.ofW (cc := cJ3_checkIndex_8e157) (maxL := 3) (ret := some .int) (by decide) rfl ?_
  intro p e s m args below meth c s₁ B hml hv
  obtain ⟨rfl, -⟩ := hv
  have hx := B.exec
  have hb := B.bytes
  have hr := B.returns
  have hlocks := B.notSynchronized
  have hlen : (lg_sl ([.int i, .int n, va_rf z])).length ≤ 3 := by cases z <;> exact Nat.le_of_ble_eq_true rfl
  have hl := lv_entry ([.int i, .int n, va_rf z]) (n := 3) hlen
  rw [lg_entry_eq]
  generalize (lg_sl ([.int i, .int n, va_rf z]) ++ List.replicate (3 - (lg_sl ([.int i, .int n, va_rf z])).length) Slot.unset).toArray = ls at hl ⊢
  have hl : lv_has ls 3 [(0, .int i), (1, .int n), (2, va_rf z)] := hl
  refine lv_iload_n hx hb dJ3_checkIndex_8e157_0 rfl (lv_at hl 0 rfl) ?_
  refine lv_if_lt (tgt := 9) hx hb dJ3_checkIndex_8e157_1 (by decide) (fun h => absurd h h0) (fun _ => ?_)
  refine lv_iload_n hx hb dJ3_checkIndex_8e157_4 rfl (lv_at hl 0 rfl) ?_
  refine lv_iload_n hx hb dJ3_checkIndex_8e157_5 rfl (lv_at hl 1 rfl) ?_
  refine lv_icmp_lt (tgt := 16) hx hb dJ3_checkIndex_8e157_6 (by decide) (fun _ => ?_) (fun h => absurd h1 h)
  refine lv_iload_n hx hb dJ3_checkIndex_8e157_16 rfl (lv_at hl 0 rfl) ?_
  exact W.iret hx hb hr (fun t2 ht2 _ => ⟨⟨_, (), rfl, rfl, trivial⟩, st_F rfl ht2⟩) (fun _ h => nomatch h) dJ3_checkIndex_8e157_17
set_option maxHeartbeats 4000000 in
set_option maxRecDepth 100000 in
theorem c_chk (l : Launch) (i n : Int32) (A : Nat → Prop) (h0 : ¬ i < 0) (h1 : i < n) : Met l yJ0_checkIndex_df160 wsJ0_checkIndex_df160 ({ frames := 1, cells := 0, slots := 0, locals := 24 }) (va_Pc [.int i, .int n] (fun U => va_Zq "jdk/internal/util/Preconditions" "SIOOBE_FORMATTER" "Ljava/util/function/BiFunction;" A U U.heap)) (va_Qv (fun (_ : Unit) => True) (fun _ _ => True) st_0) 0 0 st_0 := by
  refine Met.ofW (cc := cJ0_checkIndex_df160) (maxL := 2) (ret := none) (by decide) rfl ?_
  intro p e s m args below meth c s₁ B hml hv
  obtain ⟨rfl, hq⟩ := hv
  have hx := B.exec
  have hb := B.bytes
  have hr := B.returns
  have hts := atoms_spec (ws := wsJ0_checkIndex_df160) B.pre
  have hown : s.vm.findClass RJ0 = some m.cls := findClass_of_methodNamed B.named
  have hlocks := B.notSynchronized
  have hS : va_S A s.heap s.heap [] := va_S.rf
  have hS0 : va_S st_0 s.heap s.heap [] := va_S.rf
  have hl := lv_entry ([.int i, .int n]) (n := 2) (Nat.le_of_ble_eq_true rfl)
  rw [lg_entry_eq]
  generalize (lg_sl ([.int i, .int n]) ++ List.replicate (2 - (lg_sl ([.int i, .int n])).length) Slot.unset).toArray = ls at hl ⊢
  have hl : lv_has ls 2 [(0, .int i), (1, .int n)] := hl
  refine lv_iload_n hx hb dJ0_checkIndex_df160_0 rfl (lv_at hl 0 rfl) ?_
  refine lv_iload_n hx hb dJ0_checkIndex_df160_1 rfl (lv_at hl 1 rfl) ?_
  have key : ∀ z : Option Nat, W p l e (headSpec wsJ0_checkIndex_df160 ({ frames := 1, cells := 0, slots := 0, locals := 24 })).room s m #[.int i, .int n] below meth c s.heap [] 0 0 (MQ below (va_Qv (fun (_ : Unit) => True) (fun _ _ => True) st_0) #[.int i, .int n] s 0 0 st_0) (F0 m 5 ls (va_rf z :: .int n :: .int i :: [])) := by
    intro z
    refine va_calli (va_runS (As := [.int i, .int n, va_rf z]) (rest := []) ⟨hx, hb, hml, hown, hts⟩ (c_pre l i n z h0 h1) (va_cwS 3 hts gJ0_checkIndex_df160_J3_checkIndex_8e157 rfl rfl rfl (by decide +kernel) ⟨Nat.le_of_ble_eq_true rfl, Nat.le_of_ble_eq_true rfl⟩)
      ⟨st_blind fun U g mk a h => h, fun U hU hW => ⟨rfl, trivial⟩⟩ rfl rfl hl.1 rfl (lv_room (Nat.le_of_ble_eq_true rfl)) dJ0_checkIndex_df160_5 ⟨Nat.zero_le _, Nat.zero_le _⟩) hS0 (fun _ _ h => h.elim) (fun _ h => h.elim)
      (fun r u t H1 locs ht hvm hw hB hz1 hk1 hS1 => ?_)
    refine lv_pop hx hb dJ0_checkIndex_df160_8 rfl ?_
    exact W.vret hx hb hr (fun t2 ht2 _ => ⟨⟨(), rfl, trivial, trivial⟩, hS1.F ht2⟩) hS1.2.2 dJ0_checkIndex_df160_9
  rcases hq with hq | ⟨z, hq⟩
  · exact va_gets hx hb hq hS hown (hts (.fieldLink RJ0 1053 "jdk/internal/util/Preconditions" "SIOOBE_FORMATTER" "Ljava/util/function/BiFunction;") (by decide +kernel)) (fun _ h9 => h9) dJ0_checkIndex_df160_2 (key none)
  · exact va_gets hx hb hq hS hown (hts (.fieldLink RJ0 1053 "jdk/internal/util/Preconditions" "SIOOBE_FORMATTER" "Ljava/util/function/BiFunction;") (by decide +kernel)) (fun _ h9 => h9) dJ0_checkIndex_df160_2 (key (some z))
theorem st_lt {i : Int32} {n : Nat} (h : vp_in i n) (hn : n < 2 ^ 31) : ¬ i < 0 ∧ i < Int32.ofNat n := by
  obtain ⟨j, hj, rfl⟩ := vp_in_of h hn
  exact ⟨nI_pos (by omega), nI_lt hj hn⟩
set_option maxHeartbeats 4000000 in
set_option maxRecDepth 100000 in
theorem c_lat (l : Launch) (q v n : Nat) (bs : List Int32) (A : Nat → Prop) (i : Int32) (hi : vp_in i n) (hn : n < 2 ^ 31) : Met l yJ1_charAt_3b067 wsJ1_charAt_3b067 ({ frames := 2, cells := 0, slots := 0, locals := 48 }) (va_Pc [.ref v, .int i] (st_P q v n bs A)) (va_Qi (fun (r : Int32) (_ : Unit) => r = bs.getD i.toNatClampNeg 0 &&& 255) (fun _ _ => True) st_0) 0 0 st_0 := by
  refine Met.ofW (cc := cJ1_charAt_3b067) (maxL := 2) (ret := some .char) (by decide) rfl ?_
  intro p e s m args below meth c s₁ B hml hv
  obtain ⟨rfl, hE, hZ, hq⟩ := hv
  have hx := B.exec
  have hb := B.bytes
  have hr := B.returns
  have hts := atoms_spec (ws := wsJ1_charAt_3b067) B.pre
  have hown : s.vm.findClass RJ1 = some m.cls := findClass_of_methodNamed B.named
  have hlocks := B.notSynchronized
  have hS : va_S A s.heap s.heap [] := va_S.rf
  have hS0 : va_S st_0 s.heap s.heap [] := va_S.rf
  have hl := lv_entry ([.ref v, .int i]) (n := 2) (Nat.le_of_ble_eq_true rfl)
  rw [lg_entry_eq]
  generalize (lg_sl ([.ref v, .int i]) ++ List.replicate (2 - (lg_sl ([.ref v, .int i])).length) Slot.unset).toArray = ls at hl ⊢
  have hl : lv_has ls 2 [(0, .ref v), (1, .int i)] := hl
  obtain ⟨g0, g1⟩ := st_lt hi hn
  refine lv_iload_n hx hb dJ1_charAt_3b067_0 rfl (lv_at hl 1 rfl) ?_
  refine lv_aload_n hx hb dJ1_charAt_3b067_1 rfl (lv_at hl 0 rfl) ?_
  refine va_tlen hx hb (hE.1 0 (by decide)).2.2.2 hS rfl dJ1_charAt_3b067_2 ?_
  refine va_callv (va_runS (As := [.int i, .int (Int32.ofNat n)]) (rest := []) ⟨hx, hb, hml, hown, hts⟩ (c_chk l i (Int32.ofNat n) A g0 g1) (va_cwS 2 hts gJ1_charAt_3b067_J0_checkIndex_df160 rfl rfl rfl (by decide +kernel) ⟨Nat.le_of_ble_eq_true rfl, Nat.le_of_ble_eq_true rfl⟩)
    ⟨st_blind fun U g mk a h => h, fun U hU hW => ⟨rfl, by show va_Zq _ _ _ A U U.heap; rw [hU]; exact va_Zq.moved hW.alike hq⟩⟩ rfl rfl hl.1 rfl (lv_room (Nat.le_of_ble_eq_true rfl)) dJ1_charAt_3b067_3 ⟨Nat.zero_le _, Nat.zero_le _⟩) hS0 (fun _ _ h => h.elim) (fun _ h => h.elim)
    (fun u t H1 locs ht hvm hw hB hz1 hk1 hS1 => ?_)
  have hT : va_S A s.heap H1 [] := ⟨hS1.1, fun q9 h1 _ => hS1.2.1 q9 h1 (fun h => h.elim), fun _ h => nomatch h⟩
  refine lv_aload_n hx hb dJ1_charAt_3b067_6 rfl (lv_at hl 0 rfl) ?_
  refine lv_iload_n hx hb dJ1_charAt_3b067_7 rfl (lv_at hl 1 rfl) ?_
  have hT2 : va_S A s.heap H1 locs := ⟨hS1.1, fun q9 h1 _ => hS1.2.1 q9 h1 (fun h => h.elim), fun z h => (hS1.2.2 z h).elim⟩
  refine va_tb hx hb (hE.1 0 (by decide)).2.2.2 hT2 hi rfl dJ1_charAt_3b067_8 ?_
  refine lv_sipush (v := 255) hx hb dJ1_charAt_3b067_9 (by decide) ?_
  refine lv_iand hx hb dJ1_charAt_3b067_12 ?_
  refine lv_i2c hx hb dJ1_charAt_3b067_13 rfl ?_
  rw [sc_c2]
  exact W.zret hx hb hr (sc_nar _) (fun t2 ht2 _ => ⟨⟨_, (), rfl, rfl, trivial⟩, hS1.F ht2⟩) hS1.2.2 dJ1_charAt_3b067_14
set_option maxHeartbeats 4000000 in
set_option maxRecDepth 100000 in
theorem c_sch (l : Launch) (q v n : Nat) (bs : List Int32) (A : Nat → Prop) (i : Int32) (hi : vp_in i n) (hn : n < 2 ^ 31) : Met l yJ0_charAt_5068e wsJ0_charAt_5068e ({ frames := 3, cells := 0, slots := 0, locals := 72 }) (va_Pc [.ref q, .int i] (st_P q v n bs A)) (va_Qi (fun (r : Int32) (_ : Unit) => r = bs.getD i.toNatClampNeg 0 &&& 255) (fun _ _ => True) st_0) 0 0 st_0 := by
  refine Met.ofW (cc := cJ0_charAt_5068e) (maxL := 2) (ret := some .char) (by decide) rfl ?_
  intro p e s m args below meth c s₁ B hml hv
  obtain ⟨rfl, hE, hZ, hq⟩ := hv
  have hx := B.exec
  have hb := B.bytes
  have hr := B.returns
  have hts := atoms_spec (ws := wsJ0_charAt_5068e) B.pre
  have hown : s.vm.findClass RJ0 = some m.cls := findClass_of_methodNamed B.named
  have hlocks := B.notSynchronized
  have hS : va_S A s.heap s.heap [] := va_S.rf
  have hS0 : va_S st_0 s.heap s.heap [] := va_S.rf
  have hl := lv_entry ([.ref q, .int i]) (n := 2) (Nat.le_of_ble_eq_true rfl)
  rw [lg_entry_eq]
  generalize (lg_sl ([.ref q, .int i]) ++ List.replicate (2 - (lg_sl ([.ref q, .int i])).length) Slot.unset).toArray = ls at hl ⊢
  have hl : lv_has ls 2 [(0, .ref q), (1, .int i)] := hl
  refine lv_aload_n hx hb dJ0_charAt_5068e_0 rfl (lv_at hl 0 rfl) ?_
  refine va_calli (va_runV (As := []) (rest := []) ⟨hx, hb, hml, hown, hts⟩ (c_isl l q v n bs A) (cwV 0 hts gJ0_charAt_5068e_J0_isLatin1_aae02 rfl rfl rfl (by decide +kernel) ⟨Nat.le_of_ble_eq_true rfl, Nat.le_of_ble_eq_true rfl⟩)
    ⟨st_blind fun U g mk a h => st_P.go rfl (State.WarmedH.refl U) h, vk_recv (i := 0) hE (by decide) hS, fun U hU hW => ⟨rfl, st_P.go hU hW ⟨hE, hZ, hq⟩⟩⟩ rfl rfl hl.1 rfl (lv_room (Nat.le_of_ble_eq_true rfl)) dJ0_charAt_5068e_1 ⟨Nat.zero_le _, Nat.zero_le _⟩) hS0 (fun _ _ h => h.elim) (fun _ h => h.elim)
    (fun r u t H1 locs ht hvm hw hB hz1 hk1 hS1 => ?_)
  have hT : va_S A s.heap H1 locs := ⟨hS1.1, fun q9 h1 _ => hS1.2.1 q9 h1 (fun h => h.elim), fun z h => (hS1.2.2 z h).elim⟩
  refine lv_if_eq (tgt := 16) hx hb dJ0_charAt_5068e_4 (by decide) (fun h => absurd (h.symm.trans hw) (by decide)) (fun _ => ?_)
  refine lv_aload_n hx hb dJ0_charAt_5068e_7 rfl (lv_at hl 0 rfl) ?_
  refine vk_getf hx hb (hE.1 0 (by decide)).2.2.1 hT hown (hts (.fieldLink RJ0 9 "java/lang/String" "value" "[B") (by decide +kernel)) (fun _ h9 => h9) dJ0_charAt_5068e_8 ?_
  refine lv_iload_n hx hb dJ0_charAt_5068e_11 rfl (lv_at hl 1 rfl) ?_
  have hH : ∀ q9 : Nat, q9 < s.heap.size → H1[q9]? = s.heap[q9]? := fun q9 h1 => hS1.2.1 q9 h1 (fun h => h.elim)
  refine va_calli (va_runS (As := [.ref v, .int i]) (rest := []) ⟨hx, hb, hml, hown, hts⟩ (c_lat l q v n bs A i hi hn) (va_cwS 2 hts gJ0_charAt_5068e_J1_charAt_3b067 rfl rfl rfl (by decide +kernel) ⟨Nat.le_of_ble_eq_true rfl, Nat.le_of_ble_eq_true rfl⟩)
    ⟨st_blind fun U g mk a h => st_P.go rfl (State.WarmedH.refl U) h, fun U hU hW => ⟨rfl, by
      unfold st_P
      rw [hU]
      exact ⟨(vk_S.moved hW.alike hE).kept (fun q9 h1 _ => hH q9 h1), (va_Z.moved hW.alike hZ).kept (fun q9 h1 _ => hH q9 h1), (va_Zq.moved hW.alike hq).kept (fun q9 h1 _ => hH q9 h1)⟩⟩⟩ rfl rfl hl.1 rfl (lv_room (Nat.le_of_ble_eq_true rfl)) dJ0_charAt_5068e_12 ⟨Nat.zero_le _, Nat.zero_le _⟩) hS1 (fun _ _ h => h.elim) (fun _ h => h.elim)
    (fun r2 u2 t2 H2 locs2 ht2 hvm2 hw2 hB2 hz2 hk2 hS2 => ?_)
  rw [hw2]
  exact W.zret hx hb hr (sc_nar _) (fun t3 ht3 _ => ⟨⟨_, (), rfl, rfl, trivial⟩, hS2.F ht3⟩) hS2.2.2 dJ0_charAt_5068e_15
end
section
/-! ===== each instruction of the abstract machine is a step of the real one ===== -/
theorem a_kc {n : Nat} {v : Value} {r : List Value} (hv : a_rk n v) (hr : ∀ u ∈ r, a_rk n u) : ∀ u ∈ v :: r, a_rk n u := fun u hu => (List.mem_cons.mp hu).elim (fun e => by rw [e]; exact hv) (hr u)
theorem a_tl {n : Nat} {v : Value} {r : List Value} (h : ∀ u ∈ v :: r, a_rk n u) : ∀ u ∈ r, a_rk n u := fun u hu => h u (List.mem_cons_of_mem _ hu)
theorem a_hd {n : Nat} {v : Value} {r : List Value} (h : ∀ u ∈ v :: r, a_rk n u) : a_rk n v := h v List.mem_cons_self
theorem nx_inl {pc : Nat} {ls : AL} {st : List Value} {w : AW} {N : AN} (h : a_nx pc ls st w = some N) : N = (pc, ls, st, w, 0, 0) := (Option.some.inj h).symm
theorem to_inl {pc : Nat} {off : Int} {ls : AL} {st : List Value} {w : AW} {N : AN} (h : a_to pc off ls st w = some N) : ∃ t : Nat, (pc : Int) + off = (t : Int) ∧ N = (t, ls, st, w, 0, 0) := by
  unfold a_to at h
  split at h
  · rename_i h0
    exact ⟨((pc : Int) + off).toNat, (Int.toNat_of_nonneg h0).symm, nx_inl h⟩
  · cases h
theorem jmp_inl {q : Prop} [Decidable q] {pc : Nat} {off : Int} {ls : AL} {st : List Value} {w : AW} {N : AN} (h : a_jmp q pc off ls st w = some N) : ∃ t : Nat, (pc : Int) + off = (t : Int) ∧ ((q ∧ N = (t, ls, st, w, 0, 0)) ∨ (¬ q ∧ N = (pc + 3, ls, st, w, 0, 0))) := by
  unfold a_jmp at h
  split at h
  · rename_i h0
    refine ⟨((pc : Int) + off).toNat, (Int.toNat_of_nonneg h0).symm, ?_⟩
    split at h
    · rename_i h1
      exact Or.inl ⟨h1, nx_inl h⟩
    · rename_i h1
      exact Or.inr ⟨h1, nx_inl h⟩
  · cases h
theorem i1_inl {f : Int32 → Int32} {pc : Nat} {ls : AL} {st : List Value} {w : AW} {N : AN} (h : a_i1 f pc ls st w = some N) : ∃ (x : Int32) (r : List Value), st = .int x :: r ∧ N = (pc + 1, ls, .int (f x) :: r, w, 0, 0) := by
  unfold a_i1 at h
  split at h
  · exact ⟨_, _, rfl, nx_inl h⟩
  · cases h
theorem i2_inl {f : Int32 → Int32 → Int32} {pc : Nat} {ls : AL} {st : List Value} {w : AW} {N : AN} (h : a_i2 f pc ls st w = some N) : ∃ (x y : Int32) (r : List Value), st = .int y :: .int x :: r ∧ N = (pc + 1, ls, .int (f x y) :: r, w, 0, 0) := by
  unfold a_i2 at h
  split at h
  · exact ⟨_, _, _, rfl, nx_inl h⟩
  · cases h
theorem i2z_inl {f : Int32 → Int32 → Int32} {pc : Nat} {ls : AL} {st : List Value} {w : AW} {N : AN} (h : a_i2z f pc ls st w = some N) : ∃ (x y : Int32) (r : List Value), st = .int y :: .int x :: r ∧ ¬ y = 0 ∧ N = (pc + 1, ls, .int (f x y) :: r, w, 0, 0) := by
  unfold a_i2z at h
  split at h
  · split at h
    · cases h
    · rename_i h0
      exact ⟨_, _, _, rfl, h0, nx_inl h⟩
  · cases h
theorem l2_inl {f : Int64 → Int64 → Int64} {pc : Nat} {ls : AL} {st : List Value} {w : AW} {N : AN} (h : a_l2 f pc ls st w = some N) : ∃ (x y : Int64) (r : List Value), st = .long y :: .long x :: r ∧ N = (pc + 1, ls, .long (f x y) :: r, w, 0, 0) := by
  unfold a_l2 at h
  split at h
  · exact ⟨_, _, _, rfl, nx_inl h⟩
  · cases h
theorem l2z_inl {f : Int64 → Int64 → Int64} {pc : Nat} {ls : AL} {st : List Value} {w : AW} {N : AN} (h : a_l2z f pc ls st w = some N) : ∃ (x y : Int64) (r : List Value), st = .long y :: .long x :: r ∧ ¬ y = 0 ∧ N = (pc + 1, ls, .long (f x y) :: r, w, 0, 0) := by
  unfold a_l2z at h
  split at h
  · split at h
    · cases h
    · rename_i h0
      exact ⟨_, _, _, rfl, h0, nx_inl h⟩
  · cases h
abbrev a_Go (adK : Nat → Nat) (b : Nat) (D : va_G) (cA : Nat → ClassId) (A : Nat → Prop) (p : Program) (l : Launch) (e : Env) (R : Room) (s : State) (m : MethodId) (args : Array Value) (below : List Frame) (meth : Method) (c : Code) (Q : State → Prop) (k : Nat) (θ : Nat → Nat) (w : AW) (nc ns : Nat) (N : AN) : Prop :=
  ∀ (θ' : Nat → Nat) (H' : Heap) (locs' : List Loc) (sl' : Array Slot), a_ex w.length θ θ' → a_I D cA adK b A s H' locs' θ' N.2.2.2.1 → a_F θ' N.2.2.2.1 (mX k) sl' N.2.1 N.2.2.1 → W p l e R s m args below meth c H' locs' (nc + N.2.2.2.2.1) (ns + N.2.2.2.2.2) Q (F0 m N.1 sl' (N.2.2.1.map (a_V θ')))
section AINS
variable {p : Program} {l : Launch} {e : Env} {R : Room} {s : State} {m : MethodId} {args : Array Value} {below : List Frame} {meth : Method} {c : Code} {H : Heap} {locs : List Loc} {Q : State → Prop}
variable {adK adV : Nat → Nat} {b : Nat} {sc : List Int32} {D : va_G} {cA : Nat → ClassId} {A : Nat → Prop} {θ : Nat → Nat} {w : AW} {ls : AL} {st : List Value} {sl : Array Slot} {d k pc len nc ns : Nat} {N : AN}
theorem a_X.kN (hX : a_X adK adV b sc D cA A p l R s m args meth c d k) : k < mN := hX.2.2.2.2.2.2.2.2.2.2
theorem a_X.kc (hX : a_X adK adV b sc D cA A p l R s m args meth c d k) : mK k < 10 := (mPb_f hX.kN).2.2.2.2.2.2.1
theorem a_X.K (hX : a_X adK adV b sc D cA A p l R s m args meth c d k) : va_K D vwCl (a_ty cA) s := hX.2.2.2.2.2.1
theorem a_X.E (hX : a_X adK adV b sc D cA A p l R s m args meth c d k) : a_Env adK adV b sc A s s.heap := hX.2.2.2.2.2.2.1
theorem a_X.aA (hX : a_X adK adV b sc D cA A p l R s m args meth c d k) : ∀ q : Nat, s.heap.size ≤ q → A q := hX.2.2.2.2.2.2.2.1
theorem a_X.f (hX : a_X adK adV b sc D cA A p l R s m args meth c d k) : d ≤ R.frames := hX.2.2.2.2.2.2.2.2.1
theorem a_X.lo (hX : a_X adK adV b sc D cA A p l R s m args meth c d k) : a_lo d ≤ R.locals := hX.2.2.2.2.2.2.2.2.2.1
theorem s_iconst (hX : a_X adK adV b sc D cA A p l R s m args meth c d k) (hI : a_I D cA adK b A s H locs θ w) (hF : a_F θ w (mX k) sl ls st) {n : Int} (hd : mLk k pc = some (.iconst n, len)) (h0 : ins sc d k pc ls st w (.iconst n) = some N) (hr : nc + N.2.2.2.2.1 ≤ R.cells ∧ ns + N.2.2.2.2.2 ≤ R.slots) (K : a_Go adK b D cA A p l e R s m args below meth c Q k θ w nc ns N) : W p l e R s m args below meth c H locs nc ns Q (F0 m pc sl (st.map (a_V θ))) := by
  obtain ⟨⟨hx, hb, hml, hown, hts⟩, -⟩ := id hX
  have h := nx_inl h0
  subst h
  exact lv_iconst hx hb (a_dec1 hX.kN hd rfl) rfl (K θ H locs sl a_ex_rf hI (hF.st (a_kc (a_rk_int _) hF.2.2)))
theorem s_bipush (hX : a_X adK adV b sc D cA A p l R s m args meth c d k) (hI : a_I D cA adK b A s H locs θ w) (hF : a_F θ w (mX k) sl ls st) {n : Int} (hd : mLk k pc = some (.bipush n, len)) (h0 : ins sc d k pc ls st w (.bipush n) = some N) (hr : nc + N.2.2.2.2.1 ≤ R.cells ∧ ns + N.2.2.2.2.2 ≤ R.slots) (K : a_Go adK b D cA A p l e R s m args below meth c Q k θ w nc ns N) : W p l e R s m args below meth c H locs nc ns Q (F0 m pc sl (st.map (a_V θ))) := by
  obtain ⟨⟨hx, hb, hml, hown, hts⟩, -⟩ := id hX
  have h := nx_inl h0
  subst h
  exact lv_bipush hx hb (a_dec1 hX.kN hd rfl) rfl (K θ H locs sl a_ex_rf hI (hF.st (a_kc (a_rk_int _) hF.2.2)))
theorem s_sipush (hX : a_X adK adV b sc D cA A p l R s m args meth c d k) (hI : a_I D cA adK b A s H locs θ w) (hF : a_F θ w (mX k) sl ls st) {n : Int} (hd : mLk k pc = some (.sipush n, len)) (h0 : ins sc d k pc ls st w (.sipush n) = some N) (hr : nc + N.2.2.2.2.1 ≤ R.cells ∧ ns + N.2.2.2.2.2 ≤ R.slots) (K : a_Go adK b D cA A p l e R s m args below meth c Q k θ w nc ns N) : W p l e R s m args below meth c H locs nc ns Q (F0 m pc sl (st.map (a_V θ))) := by
  obtain ⟨⟨hx, hb, hml, hown, hts⟩, -⟩ := id hX
  have h := nx_inl h0
  subst h
  exact lv_sipush hx hb (a_dec1 hX.kN hd rfl) rfl (K θ H locs sl a_ex_rf hI (hF.st (a_kc (a_rk_int _) hF.2.2)))
theorem s_lconst (hX : a_X adK adV b sc D cA A p l R s m args meth c d k) (hI : a_I D cA adK b A s H locs θ w) (hF : a_F θ w (mX k) sl ls st) {n : Fin 2} (hd : mLk k pc = some (.lconst n, len)) (h0 : ins sc d k pc ls st w (.lconst n) = some N) (hr : nc + N.2.2.2.2.1 ≤ R.cells ∧ ns + N.2.2.2.2.2 ≤ R.slots) (K : a_Go adK b D cA A p l e R s m args below meth c Q k θ w nc ns N) : W p l e R s m args below meth c H locs nc ns Q (F0 m pc sl (st.map (a_V θ))) := by
  obtain ⟨⟨hx, hb, hml, hown, hts⟩, -⟩ := id hX
  have h := nx_inl h0
  subst h
  exact lv_lconst hx hb (a_dec1 hX.kN hd rfl) rfl (K θ H locs sl a_ex_rf hI (hF.st (a_kc (a_rk_long _) hF.2.2)))
theorem ldc_inl {x : Nat} (h : a_ldc (mK k) x pc ls st w = some N) : (∃ v : Int32, a_lk (kI (mK k)) x = some v ∧ N = (pc, ls, .int v :: st, w, 0, 0)) ∨ (∃ i : Nat, a_lk (kS (mK k)) x = some i ∧ i < sN ∧ N = (pc, ls, .ref (a_SB + i) :: st, w, 0, 0)) := by
  unfold a_ldc at h
  split at h
  · rename_i v hv
    exact Or.inl ⟨v, hv, nx_inl h⟩
  · split at h
    · rename_i i hi
      split at h
      · rename_i h1
        exact Or.inr ⟨i, hi, h1, nx_inl h⟩
      · cases h
    · cases h
theorem kS_ok : ((List.range 10).all fun c => (kS c).all fun q => decide (q.2 < sN) && (decide (sC q.2 = c) && decide (sP q.2 = q.1))) = true := by decide +kernel
theorem a_kS {c x i : Nat} (hc : c < 10) (h : a_lk (kS c) x = some i) : i < sN ∧ sC i = c ∧ sP i = x := by
  have hm := a_lk_mem h
  have h1 := List.all_eq_true.mp (List.all_eq_true.mp kS_ok c (List.mem_range.mpr hc)) _ hm
  simpa using h1
theorem a_str (hX : a_X adK adV b sc D cA A p l R s m args meth c d k) {x i : Nat} (h : a_lk (kS (mK k)) x = some i) : vk_R (RN (mK k)) x (sT i) (adK i) s := by
  obtain ⟨h1, h2, h3⟩ := a_kS hX.kc h
  have h4 := (hX.E.1 i h1).1
  rw [h2, h3] at h4
  exact h4
theorem va_ldcSw {cc : ByteArray} {cells slots : Nat} {ls9 : Array Slot} {rest : List Value} (hexec : p.tables.exec = Jvm.exec) (hb : c.code = cc) {own tx : String} {index q : Nat} (hown : s.vm.findClass own = some m.cls) (hZ : vk_R own index tx q s) (hdg : decode cc pc = .ok (.ldc_w index, 3))
    (kk : W p l e R s m args below meth c H locs cells slots Q (F0 m (pc + 3) ls9 (.ref q :: rest))) : W p l e R s m args below meth c H locs cells slots Q (F0 m pc ls9 rest) := by
  intro T hT X
  obtain ⟨t, a1, b1⟩ := kk T hT X
  exact ⟨t, X.ldcStringW hexec hown (text := tx) (a := q) hZ.1 hZ.2 (g := F0 m pc ls9 rest) rfl (by rw [hb]; exact hdg) t a1, b1⟩
theorem a_SBk {n i : Nat} : a_rk n (.ref (a_SB + i)) := a_rk_ref (Or.inr (by unfold a_SB a_SC; omega))
theorem s_ldc (hX : a_X adK adV b sc D cA A p l R s m args meth c d k) (hI : a_I D cA adK b A s H locs θ w) (hF : a_F θ w (mX k) sl ls st) {x : Nat} (hd : mLk k pc = some (.ldc x, len)) (h0 : ins sc d k pc ls st w (.ldc x) = some N) (hr : nc + N.2.2.2.2.1 ≤ R.cells ∧ ns + N.2.2.2.2.2 ≤ R.slots) (K : a_Go adK b D cA A p l e R s m args below meth c Q k θ w nc ns N) : W p l e R s m args below meth c H locs nc ns Q (F0 m pc sl (st.map (a_V θ))) := by
  obtain ⟨⟨hx, hb, hml, hown, hts⟩, -⟩ := id hX
  rcases ldc_inl h0 with ⟨v, hv, rfl⟩ | ⟨i, hi, hn, rfl⟩
  · exact lv_ldc hx hb hown (hts (wI (mK k) (x, v)) (a_inKI hX.kc (a_lk_mem hv))) (a_dec1 hX.kN hd rfl) (K θ H locs sl a_ex_rf hI (hF.st (a_kc (a_rk_int _) hF.2.2)))
  · have e1 : θ (a_SB + i) = adK i := hI.2.2.2.2.2.2 i hn
    have K1 := K θ H locs sl a_ex_rf hI (hF.st (a_kc a_SBk hF.2.2))
    refine va_ldcS hx hb hown (a_str hX hi) (a_dec1 hX.kN hd rfl) ?_
    rw [← e1]
    exact K1
theorem s_ldcw (hX : a_X adK adV b sc D cA A p l R s m args meth c d k) (hI : a_I D cA adK b A s H locs θ w) (hF : a_F θ w (mX k) sl ls st) {x : Nat} (hd : mLk k pc = some (.ldc_w x, len)) (h0 : ins sc d k pc ls st w (.ldc_w x) = some N) (hr : nc + N.2.2.2.2.1 ≤ R.cells ∧ ns + N.2.2.2.2.2 ≤ R.slots) (K : a_Go adK b D cA A p l e R s m args below meth c Q k θ w nc ns N) : W p l e R s m args below meth c H locs nc ns Q (F0 m pc sl (st.map (a_V θ))) := by
  obtain ⟨⟨hx, hb, hml, hown, hts⟩, -⟩ := id hX
  rcases ldc_inl h0 with ⟨v, hv, rfl⟩ | ⟨i, hi, hn, rfl⟩
  · exact lv_ldcw hx hb hown (hts (wI (mK k) (x, v)) (a_inKI hX.kc (a_lk_mem hv))) (a_dec1 hX.kN hd rfl) (K θ H locs sl a_ex_rf hI (hF.st (a_kc (a_rk_int _) hF.2.2)))
  · have e1 : θ (a_SB + i) = adK i := hI.2.2.2.2.2.2 i hn
    have K1 := K θ H locs sl a_ex_rf hI (hF.st (a_kc a_SBk hF.2.2))
    refine va_ldcSw hx hb hown (a_str hX hi) (a_dec1 hX.kN hd rfl) ?_
    rw [← e1]
    exact K1
theorem ldc2_inl {x : Nat} (h : a_ldc2 (mK k) x pc ls st w = some N) : ∃ v : Int64, a_lk (kL (mK k)) x = some v ∧ N = (pc, ls, .long v :: st, w, 0, 0) := by
  unfold a_ldc2 at h
  split at h
  · rename_i v hv
    exact ⟨v, hv, nx_inl h⟩
  · cases h
theorem s_ldc2 (hX : a_X adK adV b sc D cA A p l R s m args meth c d k) (hI : a_I D cA adK b A s H locs θ w) (hF : a_F θ w (mX k) sl ls st) {x : Nat} (hd : mLk k pc = some (.ldc2_w x, len)) (h0 : ins sc d k pc ls st w (.ldc2_w x) = some N) (hr : nc + N.2.2.2.2.1 ≤ R.cells ∧ ns + N.2.2.2.2.2 ≤ R.slots) (K : a_Go adK b D cA A p l e R s m args below meth c Q k θ w nc ns N) : W p l e R s m args below meth c H locs nc ns Q (F0 m pc sl (st.map (a_V θ))) := by
  obtain ⟨⟨hx, hb, hml, hown, hts⟩, -⟩ := id hX
  obtain ⟨v, hv, rfl⟩ := ldc2_inl h0
  exact lv_ldc2 hx hb hown (hts (wL (mK k) (x, v)) (a_inKL hX.kc (a_lk_mem hv))) (a_dec1 hX.kN hd rfl) (K θ H locs sl a_ex_rf hI (hF.st (a_kc (a_rk_long _) hF.2.2)))
theorem ldI_inl {v : Option Value} (h : a_ldI v pc ls st w = some N) : ∃ x : Int32, v = some (.int x) ∧ N = (pc, ls, .int x :: st, w, 0, 0) := by
  unfold a_ldI at h
  split at h
  · exact ⟨_, rfl, nx_inl h⟩
  · cases h
theorem ldL_inl {v : Option Value} (h : a_ldL v pc ls st w = some N) : ∃ x : Int64, v = some (.long x) ∧ N = (pc, ls, .long x :: st, w, 0, 0) := by
  unfold a_ldL at h
  split at h
  · exact ⟨_, rfl, nx_inl h⟩
  · cases h
theorem ldA_inl {v : Option Value} (h : a_ldA v pc ls st w = some N) : ∃ x : Nat, v = some (.ref x) ∧ N = (pc, ls, .ref x :: st, w, 0, 0) := by
  unfold a_ldA at h
  split at h
  · exact ⟨_, rfl, nx_inl h⟩
  · cases h
theorem s_iload (hX : a_X adK adV b sc D cA A p l R s m args meth c d k) (hI : a_I D cA adK b A s H locs θ w) (hF : a_F θ w (mX k) sl ls st) {i : Nat} (hd : mLk k pc = some (.iload i, len)) (h0 : ins sc d k pc ls st w (.iload i) = some N) (hr : nc + N.2.2.2.2.1 ≤ R.cells ∧ ns + N.2.2.2.2.2 ≤ R.slots) (K : a_Go adK b D cA A p l e R s m args below meth c Q k θ w nc ns N) : W p l e R s m args below meth c H locs nc ns Q (F0 m pc sl (st.map (a_V θ))) := by
  obtain ⟨⟨hx, hb, hml, hown, hts⟩, -⟩ := id hX
  obtain ⟨x, hv, rfl⟩ := ldI_inl h0
  exact lv_iload hx hb (a_dec1 hX.kN hd rfl) (hF.at hv) (K θ H locs sl a_ex_rf hI (hF.st (a_kc (a_rk_int _) hF.2.2)))
theorem s_iloadn (hX : a_X adK adV b sc D cA A p l R s m args meth c d k) (hI : a_I D cA adK b A s H locs θ w) (hF : a_F θ w (mX k) sl ls st) {i : Fin 4} (hd : mLk k pc = some (.iload_n i, len)) (h0 : ins sc d k pc ls st w (.iload_n i) = some N) (hr : nc + N.2.2.2.2.1 ≤ R.cells ∧ ns + N.2.2.2.2.2 ≤ R.slots) (K : a_Go adK b D cA A p l e R s m args below meth c Q k θ w nc ns N) : W p l e R s m args below meth c H locs nc ns Q (F0 m pc sl (st.map (a_V θ))) := by
  obtain ⟨⟨hx, hb, hml, hown, hts⟩, -⟩ := id hX
  obtain ⟨x, hv, rfl⟩ := ldI_inl h0
  exact lv_iload_n hx hb (a_dec1 hX.kN hd rfl) rfl (hF.at hv) (K θ H locs sl a_ex_rf hI (hF.st (a_kc (a_rk_int _) hF.2.2)))
theorem s_lload (hX : a_X adK adV b sc D cA A p l R s m args meth c d k) (hI : a_I D cA adK b A s H locs θ w) (hF : a_F θ w (mX k) sl ls st) {i : Nat} (hd : mLk k pc = some (.lload i, len)) (h0 : ins sc d k pc ls st w (.lload i) = some N) (hr : nc + N.2.2.2.2.1 ≤ R.cells ∧ ns + N.2.2.2.2.2 ≤ R.slots) (K : a_Go adK b D cA A p l e R s m args below meth c Q k θ w nc ns N) : W p l e R s m args below meth c H locs nc ns Q (F0 m pc sl (st.map (a_V θ))) := by
  obtain ⟨⟨hx, hb, hml, hown, hts⟩, -⟩ := id hX
  obtain ⟨x, hv, rfl⟩ := ldL_inl h0
  exact lv_lload hx hb (a_dec1 hX.kN hd rfl) (hF.at hv) (K θ H locs sl a_ex_rf hI (hF.st (a_kc (a_rk_long _) hF.2.2)))
theorem s_lloadn (hX : a_X adK adV b sc D cA A p l R s m args meth c d k) (hI : a_I D cA adK b A s H locs θ w) (hF : a_F θ w (mX k) sl ls st) {i : Fin 4} (hd : mLk k pc = some (.lload_n i, len)) (h0 : ins sc d k pc ls st w (.lload_n i) = some N) (hr : nc + N.2.2.2.2.1 ≤ R.cells ∧ ns + N.2.2.2.2.2 ≤ R.slots) (K : a_Go adK b D cA A p l e R s m args below meth c Q k θ w nc ns N) : W p l e R s m args below meth c H locs nc ns Q (F0 m pc sl (st.map (a_V θ))) := by
  obtain ⟨⟨hx, hb, hml, hown, hts⟩, -⟩ := id hX
  obtain ⟨x, hv, rfl⟩ := ldL_inl h0
  exact lv_lload_n hx hb (a_dec1 hX.kN hd rfl) rfl (hF.at hv) (K θ H locs sl a_ex_rf hI (hF.st (a_kc (a_rk_long _) hF.2.2)))
theorem s_aload (hX : a_X adK adV b sc D cA A p l R s m args meth c d k) (hI : a_I D cA adK b A s H locs θ w) (hF : a_F θ w (mX k) sl ls st) {i : Nat} (hd : mLk k pc = some (.aload i, len)) (h0 : ins sc d k pc ls st w (.aload i) = some N) (hr : nc + N.2.2.2.2.1 ≤ R.cells ∧ ns + N.2.2.2.2.2 ≤ R.slots) (K : a_Go adK b D cA A p l e R s m args below meth c Q k θ w nc ns N) : W p l e R s m args below meth c H locs nc ns Q (F0 m pc sl (st.map (a_V θ))) := by
  obtain ⟨⟨hx, hb, hml, hown, hts⟩, -⟩ := id hX
  obtain ⟨x, hv, rfl⟩ := ldA_inl h0
  exact lv_aload hx hb (a_dec1 hX.kN hd rfl) (hF.at hv) (K θ H locs sl a_ex_rf hI (hF.st (a_kc (hF.known hv) hF.2.2)))
theorem s_aloadn (hX : a_X adK adV b sc D cA A p l R s m args meth c d k) (hI : a_I D cA adK b A s H locs θ w) (hF : a_F θ w (mX k) sl ls st) {i : Fin 4} (hd : mLk k pc = some (.aload_n i, len)) (h0 : ins sc d k pc ls st w (.aload_n i) = some N) (hr : nc + N.2.2.2.2.1 ≤ R.cells ∧ ns + N.2.2.2.2.2 ≤ R.slots) (K : a_Go adK b D cA A p l e R s m args below meth c Q k θ w nc ns N) : W p l e R s m args below meth c H locs nc ns Q (F0 m pc sl (st.map (a_V θ))) := by
  obtain ⟨⟨hx, hb, hml, hown, hts⟩, -⟩ := id hX
  obtain ⟨x, hv, rfl⟩ := ldA_inl h0
  exact lv_aload_n hx hb (a_dec1 hX.kN hd rfl) rfl (hF.at hv) (K θ H locs sl a_ex_rf hI (hF.st (a_kc (hF.known hv) hF.2.2)))
theorem stI_inl {n i : Nat} (h : a_stI n i pc ls st w = some N) : ∃ (x : Int32) (r : List Value), st = .int x :: r ∧ i < n ∧ N = (pc, a_s1 ls i (.int x), r, w, 0, 0) := by
  unfold a_stI at h
  split at h
  · split at h
    · rename_i h1
      exact ⟨_, _, rfl, h1, nx_inl h⟩
    · cases h
  · cases h
theorem stL_inl {n i : Nat} (h : a_stL n i pc ls st w = some N) : ∃ (x : Int64) (r : List Value), st = .long x :: r ∧ i + 1 < n ∧ N = (pc, a_s2 ls i (.long x), r, w, 0, 0) := by
  unfold a_stL at h
  split at h
  · split at h
    · rename_i h1
      exact ⟨_, _, rfl, h1, nx_inl h⟩
    · cases h
  · cases h
theorem stA_inl {n i : Nat} (h : a_stA n i pc ls st w = some N) : ∃ (x : Nat) (r : List Value), st = .ref x :: r ∧ i < n ∧ N = (pc, a_s1 ls i (.ref x), r, w, 0, 0) := by
  unfold a_stA at h
  split at h
  · split at h
    · rename_i h1
      exact ⟨_, _, rfl, h1, nx_inl h⟩
    · cases h
  · cases h
theorem s_istore (hX : a_X adK adV b sc D cA A p l R s m args meth c d k) (hI : a_I D cA adK b A s H locs θ w) (hF : a_F θ w (mX k) sl ls st) {i : Nat} (hd : mLk k pc = some (.istore i, len)) (h0 : ins sc d k pc ls st w (.istore i) = some N) (hr : nc + N.2.2.2.2.1 ≤ R.cells ∧ ns + N.2.2.2.2.2 ≤ R.slots) (K : a_Go adK b D cA A p l e R s m args below meth c Q k θ w nc ns N) : W p l e R s m args below meth c H locs nc ns Q (F0 m pc sl (st.map (a_V θ))) := by
  obtain ⟨⟨hx, hb, hml, hown, hts⟩, -⟩ := id hX
  obtain ⟨x, r, rfl, hn, rfl⟩ := stI_inl h0
  exact lv_istore hx hb (a_dec1 hX.kN hd rfl) hF.1 hn (a_s1_map θ ls i (.int x)) (fun sl' hl' => K θ H locs sl' a_ex_rf hI ⟨hl', a_s1_ok hF.2.1 (a_hd hF.2.2), a_tl hF.2.2⟩)
theorem s_istoren (hX : a_X adK adV b sc D cA A p l R s m args meth c d k) (hI : a_I D cA adK b A s H locs θ w) (hF : a_F θ w (mX k) sl ls st) {i : Fin 4} (hd : mLk k pc = some (.istore_n i, len)) (h0 : ins sc d k pc ls st w (.istore_n i) = some N) (hr : nc + N.2.2.2.2.1 ≤ R.cells ∧ ns + N.2.2.2.2.2 ≤ R.slots) (K : a_Go adK b D cA A p l e R s m args below meth c Q k θ w nc ns N) : W p l e R s m args below meth c H locs nc ns Q (F0 m pc sl (st.map (a_V θ))) := by
  obtain ⟨⟨hx, hb, hml, hown, hts⟩, -⟩ := id hX
  obtain ⟨x, r, rfl, hn, rfl⟩ := stI_inl h0
  exact lv_istore_n hx hb (a_dec1 hX.kN hd rfl) rfl hF.1 hn (a_s1_map θ ls (i : Nat) (.int x)) (fun sl' hl' => K θ H locs sl' a_ex_rf hI ⟨hl', a_s1_ok hF.2.1 (a_hd hF.2.2), a_tl hF.2.2⟩)
theorem s_lstore (hX : a_X adK adV b sc D cA A p l R s m args meth c d k) (hI : a_I D cA adK b A s H locs θ w) (hF : a_F θ w (mX k) sl ls st) {i : Nat} (hd : mLk k pc = some (.lstore i, len)) (h0 : ins sc d k pc ls st w (.lstore i) = some N) (hr : nc + N.2.2.2.2.1 ≤ R.cells ∧ ns + N.2.2.2.2.2 ≤ R.slots) (K : a_Go adK b D cA A p l e R s m args below meth c Q k θ w nc ns N) : W p l e R s m args below meth c H locs nc ns Q (F0 m pc sl (st.map (a_V θ))) := by
  obtain ⟨⟨hx, hb, hml, hown, hts⟩, -⟩ := id hX
  obtain ⟨x, r, rfl, hn, rfl⟩ := stL_inl h0
  exact lv_lstore hx hb (a_dec1 hX.kN hd rfl) hF.1 hn (a_s2_map θ ls i (.long x)) (fun sl' hl' => K θ H locs sl' a_ex_rf hI ⟨hl', a_s2_ok hF.2.1 (a_hd hF.2.2), a_tl hF.2.2⟩)
theorem s_lstoren (hX : a_X adK adV b sc D cA A p l R s m args meth c d k) (hI : a_I D cA adK b A s H locs θ w) (hF : a_F θ w (mX k) sl ls st) {i : Fin 4} (hd : mLk k pc = some (.lstore_n i, len)) (h0 : ins sc d k pc ls st w (.lstore_n i) = some N) (hr : nc + N.2.2.2.2.1 ≤ R.cells ∧ ns + N.2.2.2.2.2 ≤ R.slots) (K : a_Go adK b D cA A p l e R s m args below meth c Q k θ w nc ns N) : W p l e R s m args below meth c H locs nc ns Q (F0 m pc sl (st.map (a_V θ))) := by
  obtain ⟨⟨hx, hb, hml, hown, hts⟩, -⟩ := id hX
  obtain ⟨x, r, rfl, hn, rfl⟩ := stL_inl h0
  exact lv_lstore_n hx hb (a_dec1 hX.kN hd rfl) rfl hF.1 hn (a_s2_map θ ls (i : Nat) (.long x)) (fun sl' hl' => K θ H locs sl' a_ex_rf hI ⟨hl', a_s2_ok hF.2.1 (a_hd hF.2.2), a_tl hF.2.2⟩)
theorem s_astore (hX : a_X adK adV b sc D cA A p l R s m args meth c d k) (hI : a_I D cA adK b A s H locs θ w) (hF : a_F θ w (mX k) sl ls st) {i : Nat} (hd : mLk k pc = some (.astore i, len)) (h0 : ins sc d k pc ls st w (.astore i) = some N) (hr : nc + N.2.2.2.2.1 ≤ R.cells ∧ ns + N.2.2.2.2.2 ≤ R.slots) (K : a_Go adK b D cA A p l e R s m args below meth c Q k θ w nc ns N) : W p l e R s m args below meth c H locs nc ns Q (F0 m pc sl (st.map (a_V θ))) := by
  obtain ⟨⟨hx, hb, hml, hown, hts⟩, -⟩ := id hX
  obtain ⟨x, r, rfl, hn, rfl⟩ := stA_inl h0
  exact lv_astore hx hb (a_dec1 hX.kN hd rfl) hF.1 hn (a_s1_map θ ls i (.ref x)) (fun sl' hl' => K θ H locs sl' a_ex_rf hI ⟨hl', a_s1_ok hF.2.1 (a_hd hF.2.2), a_tl hF.2.2⟩)
theorem s_astoren (hX : a_X adK adV b sc D cA A p l R s m args meth c d k) (hI : a_I D cA adK b A s H locs θ w) (hF : a_F θ w (mX k) sl ls st) {i : Fin 4} (hd : mLk k pc = some (.astore_n i, len)) (h0 : ins sc d k pc ls st w (.astore_n i) = some N) (hr : nc + N.2.2.2.2.1 ≤ R.cells ∧ ns + N.2.2.2.2.2 ≤ R.slots) (K : a_Go adK b D cA A p l e R s m args below meth c Q k θ w nc ns N) : W p l e R s m args below meth c H locs nc ns Q (F0 m pc sl (st.map (a_V θ))) := by
  obtain ⟨⟨hx, hb, hml, hown, hts⟩, -⟩ := id hX
  obtain ⟨x, r, rfl, hn, rfl⟩ := stA_inl h0
  exact lv_astore_n hx hb (a_dec1 hX.kN hd rfl) rfl hF.1 hn (a_s1_map θ ls (i : Nat) (.ref x)) (fun sl' hl' => K θ H locs sl' a_ex_rf hI ⟨hl', a_s1_ok hF.2.1 (a_hd hF.2.2), a_tl hF.2.2⟩)
theorem inc_inl {n i : Nat} {z : Int} (h : a_inc n i z pc ls st w = some N) : ∃ x : Int32, a_lk ls i = some (.int x) ∧ i < n ∧ N = (pc + 3, a_s1 ls i (.int (x + Int32.ofInt z)), st, w, 0, 0) := by
  unfold a_inc at h
  split at h
  · rename_i x hx
    split at h
    · rename_i h1
      exact ⟨x, hx, h1, nx_inl h⟩
    · cases h
  · cases h
theorem s_iinc (hX : a_X adK adV b sc D cA A p l R s m args meth c d k) (hI : a_I D cA adK b A s H locs θ w) (hF : a_F θ w (mX k) sl ls st) {i : Nat} {z : Int} (hd : mLk k pc = some (.iinc i z, len)) (h0 : ins sc d k pc ls st w (.iinc i z) = some N) (hr : nc + N.2.2.2.2.1 ≤ R.cells ∧ ns + N.2.2.2.2.2 ≤ R.slots) (K : a_Go adK b D cA A p l e R s m args below meth c Q k θ w nc ns N) : W p l e R s m args below meth c H locs nc ns Q (F0 m pc sl (st.map (a_V θ))) := by
  obtain ⟨⟨hx, hb, hml, hown, hts⟩, -⟩ := id hX
  obtain ⟨x, hv, hn, rfl⟩ := inc_inl h0
  obtain ⟨j, hj⟩ := List.getElem?_of_mem (List.mem_map.mpr ⟨(i, Value.int x), a_lk_mem hv, rfl⟩ : (i, Value.int x) ∈ ls.map fun q => (q.1, a_V θ q.2))
  exact lv_iinc (k := j) hx hb (a_dec1 hX.kN hd rfl) hF.1 hj rfl hn (a_s1_map θ ls _ (.int _)) (fun sl' hl' => K θ H locs sl' a_ex_rf hI ⟨hl', a_s1_ok hF.2.1 (a_rk_int _), hF.2.2⟩)
theorem s_iadd (hX : a_X adK adV b sc D cA A p l R s m args meth c d k) (hI : a_I D cA adK b A s H locs θ w) (hF : a_F θ w (mX k) sl ls st) (hd : mLk k pc = some (.iadd, len)) (h0 : ins sc d k pc ls st w (.iadd) = some N) (hr : nc + N.2.2.2.2.1 ≤ R.cells ∧ ns + N.2.2.2.2.2 ≤ R.slots) (K : a_Go adK b D cA A p l e R s m args below meth c Q k θ w nc ns N) : W p l e R s m args below meth c H locs nc ns Q (F0 m pc sl (st.map (a_V θ))) := by
  obtain ⟨⟨hx, hb, hml, hown, hts⟩, -⟩ := id hX
  obtain ⟨x, y, r, rfl, rfl⟩ := i2_inl h0
  exact lv_iadd hx hb (a_dec1 hX.kN hd rfl) (K θ H locs sl a_ex_rf hI (hF.st (a_kc (a_rk_int _) (a_tl (a_tl hF.2.2)))))
theorem s_isub (hX : a_X adK adV b sc D cA A p l R s m args meth c d k) (hI : a_I D cA adK b A s H locs θ w) (hF : a_F θ w (mX k) sl ls st) (hd : mLk k pc = some (.isub, len)) (h0 : ins sc d k pc ls st w (.isub) = some N) (hr : nc + N.2.2.2.2.1 ≤ R.cells ∧ ns + N.2.2.2.2.2 ≤ R.slots) (K : a_Go adK b D cA A p l e R s m args below meth c Q k θ w nc ns N) : W p l e R s m args below meth c H locs nc ns Q (F0 m pc sl (st.map (a_V θ))) := by
  obtain ⟨⟨hx, hb, hml, hown, hts⟩, -⟩ := id hX
  obtain ⟨x, y, r, rfl, rfl⟩ := i2_inl h0
  exact lv_isub hx hb (a_dec1 hX.kN hd rfl) (K θ H locs sl a_ex_rf hI (hF.st (a_kc (a_rk_int _) (a_tl (a_tl hF.2.2)))))
theorem s_imul (hX : a_X adK adV b sc D cA A p l R s m args meth c d k) (hI : a_I D cA adK b A s H locs θ w) (hF : a_F θ w (mX k) sl ls st) (hd : mLk k pc = some (.imul, len)) (h0 : ins sc d k pc ls st w (.imul) = some N) (hr : nc + N.2.2.2.2.1 ≤ R.cells ∧ ns + N.2.2.2.2.2 ≤ R.slots) (K : a_Go adK b D cA A p l e R s m args below meth c Q k θ w nc ns N) : W p l e R s m args below meth c H locs nc ns Q (F0 m pc sl (st.map (a_V θ))) := by
  obtain ⟨⟨hx, hb, hml, hown, hts⟩, -⟩ := id hX
  obtain ⟨x, y, r, rfl, rfl⟩ := i2_inl h0
  exact lv_imul hx hb (a_dec1 hX.kN hd rfl) (K θ H locs sl a_ex_rf hI (hF.st (a_kc (a_rk_int _) (a_tl (a_tl hF.2.2)))))
theorem s_iand (hX : a_X adK adV b sc D cA A p l R s m args meth c d k) (hI : a_I D cA adK b A s H locs θ w) (hF : a_F θ w (mX k) sl ls st) (hd : mLk k pc = some (.iand, len)) (h0 : ins sc d k pc ls st w (.iand) = some N) (hr : nc + N.2.2.2.2.1 ≤ R.cells ∧ ns + N.2.2.2.2.2 ≤ R.slots) (K : a_Go adK b D cA A p l e R s m args below meth c Q k θ w nc ns N) : W p l e R s m args below meth c H locs nc ns Q (F0 m pc sl (st.map (a_V θ))) := by
  obtain ⟨⟨hx, hb, hml, hown, hts⟩, -⟩ := id hX
  obtain ⟨x, y, r, rfl, rfl⟩ := i2_inl h0
  exact lv_iand hx hb (a_dec1 hX.kN hd rfl) (K θ H locs sl a_ex_rf hI (hF.st (a_kc (a_rk_int _) (a_tl (a_tl hF.2.2)))))
theorem s_ior (hX : a_X adK adV b sc D cA A p l R s m args meth c d k) (hI : a_I D cA adK b A s H locs θ w) (hF : a_F θ w (mX k) sl ls st) (hd : mLk k pc = some (.ior, len)) (h0 : ins sc d k pc ls st w (.ior) = some N) (hr : nc + N.2.2.2.2.1 ≤ R.cells ∧ ns + N.2.2.2.2.2 ≤ R.slots) (K : a_Go adK b D cA A p l e R s m args below meth c Q k θ w nc ns N) : W p l e R s m args below meth c H locs nc ns Q (F0 m pc sl (st.map (a_V θ))) := by
  obtain ⟨⟨hx, hb, hml, hown, hts⟩, -⟩ := id hX
  obtain ⟨x, y, r, rfl, rfl⟩ := i2_inl h0
  exact lv_ior hx hb (a_dec1 hX.kN hd rfl) (K θ H locs sl a_ex_rf hI (hF.st (a_kc (a_rk_int _) (a_tl (a_tl hF.2.2)))))
theorem s_ixor (hX : a_X adK adV b sc D cA A p l R s m args meth c d k) (hI : a_I D cA adK b A s H locs θ w) (hF : a_F θ w (mX k) sl ls st) (hd : mLk k pc = some (.ixor, len)) (h0 : ins sc d k pc ls st w (.ixor) = some N) (hr : nc + N.2.2.2.2.1 ≤ R.cells ∧ ns + N.2.2.2.2.2 ≤ R.slots) (K : a_Go adK b D cA A p l e R s m args below meth c Q k θ w nc ns N) : W p l e R s m args below meth c H locs nc ns Q (F0 m pc sl (st.map (a_V θ))) := by
  obtain ⟨⟨hx, hb, hml, hown, hts⟩, -⟩ := id hX
  obtain ⟨x, y, r, rfl, rfl⟩ := i2_inl h0
  exact lv_ixor hx hb (a_dec1 hX.kN hd rfl) (K θ H locs sl a_ex_rf hI (hF.st (a_kc (a_rk_int _) (a_tl (a_tl hF.2.2)))))
theorem s_ishl (hX : a_X adK adV b sc D cA A p l R s m args meth c d k) (hI : a_I D cA adK b A s H locs θ w) (hF : a_F θ w (mX k) sl ls st) (hd : mLk k pc = some (.ishl, len)) (h0 : ins sc d k pc ls st w (.ishl) = some N) (hr : nc + N.2.2.2.2.1 ≤ R.cells ∧ ns + N.2.2.2.2.2 ≤ R.slots) (K : a_Go adK b D cA A p l e R s m args below meth c Q k θ w nc ns N) : W p l e R s m args below meth c H locs nc ns Q (F0 m pc sl (st.map (a_V θ))) := by
  obtain ⟨⟨hx, hb, hml, hown, hts⟩, -⟩ := id hX
  obtain ⟨x, y, r, rfl, rfl⟩ := i2_inl h0
  exact lv_ishl hx hb (a_dec1 hX.kN hd rfl) (K θ H locs sl a_ex_rf hI (hF.st (a_kc (a_rk_int _) (a_tl (a_tl hF.2.2)))))
theorem s_ishr (hX : a_X adK adV b sc D cA A p l R s m args meth c d k) (hI : a_I D cA adK b A s H locs θ w) (hF : a_F θ w (mX k) sl ls st) (hd : mLk k pc = some (.ishr, len)) (h0 : ins sc d k pc ls st w (.ishr) = some N) (hr : nc + N.2.2.2.2.1 ≤ R.cells ∧ ns + N.2.2.2.2.2 ≤ R.slots) (K : a_Go adK b D cA A p l e R s m args below meth c Q k θ w nc ns N) : W p l e R s m args below meth c H locs nc ns Q (F0 m pc sl (st.map (a_V θ))) := by
  obtain ⟨⟨hx, hb, hml, hown, hts⟩, -⟩ := id hX
  obtain ⟨x, y, r, rfl, rfl⟩ := i2_inl h0
  exact lv_ishr hx hb (a_dec1 hX.kN hd rfl) (K θ H locs sl a_ex_rf hI (hF.st (a_kc (a_rk_int _) (a_tl (a_tl hF.2.2)))))
theorem s_iushr (hX : a_X adK adV b sc D cA A p l R s m args meth c d k) (hI : a_I D cA adK b A s H locs θ w) (hF : a_F θ w (mX k) sl ls st) (hd : mLk k pc = some (.iushr, len)) (h0 : ins sc d k pc ls st w (.iushr) = some N) (hr : nc + N.2.2.2.2.1 ≤ R.cells ∧ ns + N.2.2.2.2.2 ≤ R.slots) (K : a_Go adK b D cA A p l e R s m args below meth c Q k θ w nc ns N) : W p l e R s m args below meth c H locs nc ns Q (F0 m pc sl (st.map (a_V θ))) := by
  obtain ⟨⟨hx, hb, hml, hown, hts⟩, -⟩ := id hX
  obtain ⟨x, y, r, rfl, rfl⟩ := i2_inl h0
  exact lv_iushr hx hb (a_dec1 hX.kN hd rfl) rfl (K θ H locs sl a_ex_rf hI (hF.st (a_kc (a_rk_int _) (a_tl (a_tl hF.2.2)))))
theorem s_idiv (hX : a_X adK adV b sc D cA A p l R s m args meth c d k) (hI : a_I D cA adK b A s H locs θ w) (hF : a_F θ w (mX k) sl ls st) (hd : mLk k pc = some (.idiv, len)) (h0 : ins sc d k pc ls st w (.idiv) = some N) (hr : nc + N.2.2.2.2.1 ≤ R.cells ∧ ns + N.2.2.2.2.2 ≤ R.slots) (K : a_Go adK b D cA A p l e R s m args below meth c Q k θ w nc ns N) : W p l e R s m args below meth c H locs nc ns Q (F0 m pc sl (st.map (a_V θ))) := by
  obtain ⟨⟨hx, hb, hml, hown, hts⟩, -⟩ := id hX
  obtain ⟨x, y, r, rfl, hz, rfl⟩ := i2z_inl h0
  exact lv_idiv hx hb (a_dec1 hX.kN hd rfl) hz (K θ H locs sl a_ex_rf hI (hF.st (a_kc (a_rk_int _) (a_tl (a_tl hF.2.2)))))
theorem s_irem (hX : a_X adK adV b sc D cA A p l R s m args meth c d k) (hI : a_I D cA adK b A s H locs θ w) (hF : a_F θ w (mX k) sl ls st) (hd : mLk k pc = some (.irem, len)) (h0 : ins sc d k pc ls st w (.irem) = some N) (hr : nc + N.2.2.2.2.1 ≤ R.cells ∧ ns + N.2.2.2.2.2 ≤ R.slots) (K : a_Go adK b D cA A p l e R s m args below meth c Q k θ w nc ns N) : W p l e R s m args below meth c H locs nc ns Q (F0 m pc sl (st.map (a_V θ))) := by
  obtain ⟨⟨hx, hb, hml, hown, hts⟩, -⟩ := id hX
  obtain ⟨x, y, r, rfl, hz, rfl⟩ := i2z_inl h0
  exact lv_irem hx hb (a_dec1 hX.kN hd rfl) hz (K θ H locs sl a_ex_rf hI (hF.st (a_kc (a_rk_int _) (a_tl (a_tl hF.2.2)))))
theorem s_ineg (hX : a_X adK adV b sc D cA A p l R s m args meth c d k) (hI : a_I D cA adK b A s H locs θ w) (hF : a_F θ w (mX k) sl ls st) (hd : mLk k pc = some (.ineg, len)) (h0 : ins sc d k pc ls st w (.ineg) = some N) (hr : nc + N.2.2.2.2.1 ≤ R.cells ∧ ns + N.2.2.2.2.2 ≤ R.slots) (K : a_Go adK b D cA A p l e R s m args below meth c Q k θ w nc ns N) : W p l e R s m args below meth c H locs nc ns Q (F0 m pc sl (st.map (a_V θ))) := by
  obtain ⟨⟨hx, hb, hml, hown, hts⟩, -⟩ := id hX
  obtain ⟨x, r, rfl, rfl⟩ := i1_inl h0
  exact lv_ineg hx hb (a_dec1 hX.kN hd rfl) (K θ H locs sl a_ex_rf hI (hF.st (a_kc (a_rk_int _) (a_tl hF.2.2))))
theorem s_i2b (hX : a_X adK adV b sc D cA A p l R s m args meth c d k) (hI : a_I D cA adK b A s H locs θ w) (hF : a_F θ w (mX k) sl ls st) (hd : mLk k pc = some (.i2b, len)) (h0 : ins sc d k pc ls st w (.i2b) = some N) (hr : nc + N.2.2.2.2.1 ≤ R.cells ∧ ns + N.2.2.2.2.2 ≤ R.slots) (K : a_Go adK b D cA A p l e R s m args below meth c Q k θ w nc ns N) : W p l e R s m args below meth c H locs nc ns Q (F0 m pc sl (st.map (a_V θ))) := by
  obtain ⟨⟨hx, hb, hml, hown, hts⟩, -⟩ := id hX
  obtain ⟨x, r, rfl, rfl⟩ := i1_inl h0
  exact lv_i2b hx hb (a_dec1 hX.kN hd rfl) rfl (K θ H locs sl a_ex_rf hI (hF.st (a_kc (a_rk_int _) (a_tl hF.2.2))))
theorem s_ladd (hX : a_X adK adV b sc D cA A p l R s m args meth c d k) (hI : a_I D cA adK b A s H locs θ w) (hF : a_F θ w (mX k) sl ls st) (hd : mLk k pc = some (.ladd, len)) (h0 : ins sc d k pc ls st w (.ladd) = some N) (hr : nc + N.2.2.2.2.1 ≤ R.cells ∧ ns + N.2.2.2.2.2 ≤ R.slots) (K : a_Go adK b D cA A p l e R s m args below meth c Q k θ w nc ns N) : W p l e R s m args below meth c H locs nc ns Q (F0 m pc sl (st.map (a_V θ))) := by
  obtain ⟨⟨hx, hb, hml, hown, hts⟩, -⟩ := id hX
  obtain ⟨x, y, r, rfl, rfl⟩ := l2_inl h0
  exact lv_ladd hx hb (a_dec1 hX.kN hd rfl) (K θ H locs sl a_ex_rf hI (hF.st (a_kc (a_rk_long _) (a_tl (a_tl hF.2.2)))))
theorem s_lmul (hX : a_X adK adV b sc D cA A p l R s m args meth c d k) (hI : a_I D cA adK b A s H locs θ w) (hF : a_F θ w (mX k) sl ls st) (hd : mLk k pc = some (.lmul, len)) (h0 : ins sc d k pc ls st w (.lmul) = some N) (hr : nc + N.2.2.2.2.1 ≤ R.cells ∧ ns + N.2.2.2.2.2 ≤ R.slots) (K : a_Go adK b D cA A p l e R s m args below meth c Q k θ w nc ns N) : W p l e R s m args below meth c H locs nc ns Q (F0 m pc sl (st.map (a_V θ))) := by
  obtain ⟨⟨hx, hb, hml, hown, hts⟩, -⟩ := id hX
  obtain ⟨x, y, r, rfl, rfl⟩ := l2_inl h0
  exact lv_lmul hx hb (a_dec1 hX.kN hd rfl) (K θ H locs sl a_ex_rf hI (hF.st (a_kc (a_rk_long _) (a_tl (a_tl hF.2.2)))))
theorem s_ldiv (hX : a_X adK adV b sc D cA A p l R s m args meth c d k) (hI : a_I D cA adK b A s H locs θ w) (hF : a_F θ w (mX k) sl ls st) (hd : mLk k pc = some (.ldiv, len)) (h0 : ins sc d k pc ls st w (.ldiv) = some N) (hr : nc + N.2.2.2.2.1 ≤ R.cells ∧ ns + N.2.2.2.2.2 ≤ R.slots) (K : a_Go adK b D cA A p l e R s m args below meth c Q k θ w nc ns N) : W p l e R s m args below meth c H locs nc ns Q (F0 m pc sl (st.map (a_V θ))) := by
  obtain ⟨⟨hx, hb, hml, hown, hts⟩, -⟩ := id hX
  obtain ⟨x, y, r, rfl, hz, rfl⟩ := l2z_inl h0
  exact lv_ldiv hx hb (a_dec1 hX.kN hd rfl) hz (K θ H locs sl a_ex_rf hI (hF.st (a_kc (a_rk_long _) (a_tl (a_tl hF.2.2)))))
theorem s_lrem (hX : a_X adK adV b sc D cA A p l R s m args meth c d k) (hI : a_I D cA adK b A s H locs θ w) (hF : a_F θ w (mX k) sl ls st) (hd : mLk k pc = some (.lrem, len)) (h0 : ins sc d k pc ls st w (.lrem) = some N) (hr : nc + N.2.2.2.2.1 ≤ R.cells ∧ ns + N.2.2.2.2.2 ≤ R.slots) (K : a_Go adK b D cA A p l e R s m args below meth c Q k θ w nc ns N) : W p l e R s m args below meth c H locs nc ns Q (F0 m pc sl (st.map (a_V θ))) := by
  obtain ⟨⟨hx, hb, hml, hown, hts⟩, -⟩ := id hX
  obtain ⟨x, y, r, rfl, hz, rfl⟩ := l2z_inl h0
  exact lv_lrem hx hb (a_dec1 hX.kN hd rfl) hz (K θ H locs sl a_ex_rf hI (hF.st (a_kc (a_rk_long _) (a_tl (a_tl hF.2.2)))))
theorem lcmp_inl (h : a_lcmp pc ls st w = some N) : ∃ (x y : Int64) (r : List Value), st = .long y :: .long x :: r ∧ N = (pc + 1, ls, .int (lg_cmp x y) :: r, w, 0, 0) := by
  unfold a_lcmp at h
  split at h
  · exact ⟨_, _, _, rfl, nx_inl h⟩
  · cases h
theorem i2l_inl (h : a_i2l pc ls st w = some N) : ∃ (x : Int32) (r : List Value), st = .int x :: r ∧ N = (pc + 1, ls, .long x.toInt64 :: r, w, 0, 0) := by
  unfold a_i2l at h
  split at h
  · exact ⟨_, _, rfl, nx_inl h⟩
  · cases h
theorem s_lcmp (hX : a_X adK adV b sc D cA A p l R s m args meth c d k) (hI : a_I D cA adK b A s H locs θ w) (hF : a_F θ w (mX k) sl ls st) (hd : mLk k pc = some (.lcmp, len)) (h0 : ins sc d k pc ls st w (.lcmp) = some N) (hr : nc + N.2.2.2.2.1 ≤ R.cells ∧ ns + N.2.2.2.2.2 ≤ R.slots) (K : a_Go adK b D cA A p l e R s m args below meth c Q k θ w nc ns N) : W p l e R s m args below meth c H locs nc ns Q (F0 m pc sl (st.map (a_V θ))) := by
  obtain ⟨⟨hx, hb, hml, hown, hts⟩, -⟩ := id hX
  obtain ⟨x, y, r, rfl, rfl⟩ := lcmp_inl h0
  exact W.lcmp hx hb (a_dec1 hX.kN hd rfl) (K θ H locs sl a_ex_rf hI (hF.st (a_kc (a_rk_int _) (a_tl (a_tl hF.2.2)))))
theorem s_i2l (hX : a_X adK adV b sc D cA A p l R s m args meth c d k) (hI : a_I D cA adK b A s H locs θ w) (hF : a_F θ w (mX k) sl ls st) (hd : mLk k pc = some (.i2l, len)) (h0 : ins sc d k pc ls st w (.i2l) = some N) (hr : nc + N.2.2.2.2.1 ≤ R.cells ∧ ns + N.2.2.2.2.2 ≤ R.slots) (K : a_Go adK b D cA A p l e R s m args below meth c Q k θ w nc ns N) : W p l e R s m args below meth c H locs nc ns Q (F0 m pc sl (st.map (a_V θ))) := by
  obtain ⟨⟨hx, hb, hml, hown, hts⟩, -⟩ := id hX
  obtain ⟨x, r, rfl, rfl⟩ := i2l_inl h0
  exact lv_i2l hx hb (a_dec1 hX.kN hd rfl) rfl (K θ H locs sl a_ex_rf hI (hF.st (a_kc (a_rk_long _) (a_tl hF.2.2))))
theorem dup_inl (h : a_dup pc ls st w = some N) : ∃ (v : Value) (r : List Value), st = v :: r ∧ v.category = 1 ∧ N = (pc + 1, ls, v :: v :: r, w, 0, 0) := by
  unfold a_dup at h
  split at h
  · split at h
    · rename_i h1
      exact ⟨_, _, rfl, h1, nx_inl h⟩
    · cases h
  · cases h
theorem pop_inl (h : a_pop pc ls st w = some N) : ∃ (v : Value) (r : List Value), st = v :: r ∧ v.category = 1 ∧ N = (pc + 1, ls, r, w, 0, 0) := by
  unfold a_pop at h
  split at h
  · split at h
    · rename_i h1
      exact ⟨_, _, rfl, h1, nx_inl h⟩
    · cases h
  · cases h
theorem dup2_inl (h : a_dup2 pc ls st w = some N) : ∃ (u v : Value) (r : List Value), st = u :: v :: r ∧ (u.category = 1 ∧ v.category = 1) ∧ N = (pc + 1, ls, u :: v :: u :: v :: r, w, 0, 0) := by
  unfold a_dup2 at h
  split at h
  · split at h
    · rename_i h1
      exact ⟨_, _, _, rfl, h1, nx_inl h⟩
    · cases h
  · cases h
theorem s_dup (hX : a_X adK adV b sc D cA A p l R s m args meth c d k) (hI : a_I D cA adK b A s H locs θ w) (hF : a_F θ w (mX k) sl ls st) (hd : mLk k pc = some (.dup, len)) (h0 : ins sc d k pc ls st w (.dup) = some N) (hr : nc + N.2.2.2.2.1 ≤ R.cells ∧ ns + N.2.2.2.2.2 ≤ R.slots) (K : a_Go adK b D cA A p l e R s m args below meth c Q k θ w nc ns N) : W p l e R s m args below meth c H locs nc ns Q (F0 m pc sl (st.map (a_V θ))) := by
  obtain ⟨⟨hx, hb, hml, hown, hts⟩, -⟩ := id hX
  obtain ⟨v, r, rfl, hc, rfl⟩ := dup_inl h0
  exact lv_dup hx hb (a_dec1 hX.kN hd rfl) (by rw [a_V_cat]; exact hc) (K θ H locs sl a_ex_rf hI (hF.st (a_kc (a_hd hF.2.2) hF.2.2)))
theorem s_pop (hX : a_X adK adV b sc D cA A p l R s m args meth c d k) (hI : a_I D cA adK b A s H locs θ w) (hF : a_F θ w (mX k) sl ls st) (hd : mLk k pc = some (.pop, len)) (h0 : ins sc d k pc ls st w (.pop) = some N) (hr : nc + N.2.2.2.2.1 ≤ R.cells ∧ ns + N.2.2.2.2.2 ≤ R.slots) (K : a_Go adK b D cA A p l e R s m args below meth c Q k θ w nc ns N) : W p l e R s m args below meth c H locs nc ns Q (F0 m pc sl (st.map (a_V θ))) := by
  obtain ⟨⟨hx, hb, hml, hown, hts⟩, -⟩ := id hX
  obtain ⟨v, r, rfl, hc, rfl⟩ := pop_inl h0
  exact lv_pop hx hb (a_dec1 hX.kN hd rfl) (by rw [a_V_cat]; exact hc) (K θ H locs sl a_ex_rf hI (hF.st (a_tl hF.2.2)))
theorem s_dup2 (hX : a_X adK adV b sc D cA A p l R s m args meth c d k) (hI : a_I D cA adK b A s H locs θ w) (hF : a_F θ w (mX k) sl ls st) (hd : mLk k pc = some (.dup2, len)) (h0 : ins sc d k pc ls st w (.dup2) = some N) (hr : nc + N.2.2.2.2.1 ≤ R.cells ∧ ns + N.2.2.2.2.2 ≤ R.slots) (K : a_Go adK b D cA A p l e R s m args below meth c Q k θ w nc ns N) : W p l e R s m args below meth c H locs nc ns Q (F0 m pc sl (st.map (a_V θ))) := by
  obtain ⟨⟨hx, hb, hml, hown, hts⟩, -⟩ := id hX
  obtain ⟨u, v, r, rfl, hc, rfl⟩ := dup2_inl h0
  exact lv_dup2_11 hx hb (a_dec1 hX.kN hd rfl) (by rw [a_V_cat]; exact hc.1) (by rw [a_V_cat]; exact hc.2) (K θ H locs sl a_ex_rf hI (hF.st (a_kc (a_hd hF.2.2) (a_kc (a_hd (a_tl hF.2.2)) hF.2.2))))
theorem s_goto (hX : a_X adK adV b sc D cA A p l R s m args meth c d k) (hI : a_I D cA adK b A s H locs θ w) (hF : a_F θ w (mX k) sl ls st) {off : Int} (hd : mLk k pc = some (.goto off, len)) (h0 : ins sc d k pc ls st w (.goto off) = some N) (hr : nc + N.2.2.2.2.1 ≤ R.cells ∧ ns + N.2.2.2.2.2 ≤ R.slots) (K : a_Go adK b D cA A p l e R s m args below meth c Q k θ w nc ns N) : W p l e R s m args below meth c H locs nc ns Q (F0 m pc sl (st.map (a_V θ))) := by
  obtain ⟨⟨hx, hb, hml, hown, hts⟩, -⟩ := id hX
  obtain ⟨t, ht, rfl⟩ := to_inl h0
  exact lv_goto hx hb (a_dec1 hX.kN hd rfl) ht (K θ H locs sl a_ex_rf hI (hF.st (hF.2.2)))
theorem m1_inl {f : Int32 → List Value → Option AN} (h : (match st with | .int x :: r => f x r | _ => none) = some N) : ∃ (x : Int32) (r : List Value), st = .int x :: r ∧ f x r = some N := by
  split at h
  · exact ⟨_, _, rfl, h⟩
  · cases h
theorem m2_inl {f : Int32 → Int32 → List Value → Option AN} (h : (match st with | .int y :: .int x :: r => f x y r | _ => none) = some N) : ∃ (x y : Int32) (r : List Value), st = .int y :: .int x :: r ∧ f x y r = some N := by
  split at h
  · exact ⟨_, _, _, rfl, h⟩
  · cases h
theorem s_if_eq (hX : a_X adK adV b sc D cA A p l R s m args meth c d k) (hI : a_I D cA adK b A s H locs θ w) (hF : a_F θ w (mX k) sl ls st) {off : Int} (hd : mLk k pc = some (.ifCond .eq off, len)) (h0 : ins sc d k pc ls st w (.ifCond .eq off) = some N) (hr : nc + N.2.2.2.2.1 ≤ R.cells ∧ ns + N.2.2.2.2.2 ≤ R.slots) (K : a_Go adK b D cA A p l e R s m args below meth c Q k θ w nc ns N) : W p l e R s m args below meth c H locs nc ns Q (F0 m pc sl (st.map (a_V θ))) := by
  obtain ⟨⟨hx, hb, hml, hown, hts⟩, -⟩ := id hX
  obtain ⟨x, r, rfl, h1⟩ := m1_inl (f := fun x r => a_jmp (x = 0) pc off ls r w) h0
  obtain ⟨t, ht, ⟨hq, rfl⟩ | ⟨hq, rfl⟩⟩ := jmp_inl h1
  · exact lv_if_eq hx hb (a_dec1 hX.kN hd rfl) ht (fun _ => K θ H locs sl a_ex_rf hI (hF.st (a_tl hF.2.2))) (fun q => absurd hq q)
  · exact lv_if_eq hx hb (a_dec1 hX.kN hd rfl) ht (fun q => absurd q hq) (fun _ => K θ H locs sl a_ex_rf hI (hF.st (a_tl hF.2.2)))
theorem s_ic_eq (hX : a_X adK adV b sc D cA A p l R s m args meth c d k) (hI : a_I D cA adK b A s H locs θ w) (hF : a_F θ w (mX k) sl ls st) {off : Int} (hd : mLk k pc = some (.if_icmp .eq off, len)) (h0 : ins sc d k pc ls st w (.if_icmp .eq off) = some N) (hr : nc + N.2.2.2.2.1 ≤ R.cells ∧ ns + N.2.2.2.2.2 ≤ R.slots) (K : a_Go adK b D cA A p l e R s m args below meth c Q k θ w nc ns N) : W p l e R s m args below meth c H locs nc ns Q (F0 m pc sl (st.map (a_V θ))) := by
  obtain ⟨⟨hx, hb, hml, hown, hts⟩, -⟩ := id hX
  obtain ⟨x, y, r, rfl, h1⟩ := m2_inl (f := fun x y r => a_jmp (x = y) pc off ls r w) h0
  obtain ⟨t, ht, ⟨hq, rfl⟩ | ⟨hq, rfl⟩⟩ := jmp_inl h1
  · exact lv_icmp_eq hx hb (a_dec1 hX.kN hd rfl) ht (fun _ => K θ H locs sl a_ex_rf hI (hF.st (a_tl (a_tl hF.2.2)))) (fun q => absurd hq q)
  · exact lv_icmp_eq hx hb (a_dec1 hX.kN hd rfl) ht (fun q => absurd q hq) (fun _ => K θ H locs sl a_ex_rf hI (hF.st (a_tl (a_tl hF.2.2))))
theorem s_if_ne (hX : a_X adK adV b sc D cA A p l R s m args meth c d k) (hI : a_I D cA adK b A s H locs θ w) (hF : a_F θ w (mX k) sl ls st) {off : Int} (hd : mLk k pc = some (.ifCond .ne off, len)) (h0 : ins sc d k pc ls st w (.ifCond .ne off) = some N) (hr : nc + N.2.2.2.2.1 ≤ R.cells ∧ ns + N.2.2.2.2.2 ≤ R.slots) (K : a_Go adK b D cA A p l e R s m args below meth c Q k θ w nc ns N) : W p l e R s m args below meth c H locs nc ns Q (F0 m pc sl (st.map (a_V θ))) := by
  obtain ⟨⟨hx, hb, hml, hown, hts⟩, -⟩ := id hX
  obtain ⟨x, r, rfl, h1⟩ := m1_inl (f := fun x r => a_jmp (¬ x = 0) pc off ls r w) h0
  obtain ⟨t, ht, ⟨hq, rfl⟩ | ⟨hq, rfl⟩⟩ := jmp_inl h1
  · exact lv_if_ne hx hb (a_dec1 hX.kN hd rfl) ht (fun _ => K θ H locs sl a_ex_rf hI (hF.st (a_tl hF.2.2))) (fun q => absurd q hq)
  · exact lv_if_ne hx hb (a_dec1 hX.kN hd rfl) ht (fun q => absurd q hq) (fun _ => K θ H locs sl a_ex_rf hI (hF.st (a_tl hF.2.2)))
theorem s_ic_ne (hX : a_X adK adV b sc D cA A p l R s m args meth c d k) (hI : a_I D cA adK b A s H locs θ w) (hF : a_F θ w (mX k) sl ls st) {off : Int} (hd : mLk k pc = some (.if_icmp .ne off, len)) (h0 : ins sc d k pc ls st w (.if_icmp .ne off) = some N) (hr : nc + N.2.2.2.2.1 ≤ R.cells ∧ ns + N.2.2.2.2.2 ≤ R.slots) (K : a_Go adK b D cA A p l e R s m args below meth c Q k θ w nc ns N) : W p l e R s m args below meth c H locs nc ns Q (F0 m pc sl (st.map (a_V θ))) := by
  obtain ⟨⟨hx, hb, hml, hown, hts⟩, -⟩ := id hX
  obtain ⟨x, y, r, rfl, h1⟩ := m2_inl (f := fun x y r => a_jmp (¬ x = y) pc off ls r w) h0
  obtain ⟨t, ht, ⟨hq, rfl⟩ | ⟨hq, rfl⟩⟩ := jmp_inl h1
  · exact lv_icmp_ne hx hb (a_dec1 hX.kN hd rfl) ht (fun _ => K θ H locs sl a_ex_rf hI (hF.st (a_tl (a_tl hF.2.2)))) (fun q => absurd q hq)
  · exact lv_icmp_ne hx hb (a_dec1 hX.kN hd rfl) ht (fun q => absurd q hq) (fun _ => K θ H locs sl a_ex_rf hI (hF.st (a_tl (a_tl hF.2.2))))
theorem s_if_lt (hX : a_X adK adV b sc D cA A p l R s m args meth c d k) (hI : a_I D cA adK b A s H locs θ w) (hF : a_F θ w (mX k) sl ls st) {off : Int} (hd : mLk k pc = some (.ifCond .lt off, len)) (h0 : ins sc d k pc ls st w (.ifCond .lt off) = some N) (hr : nc + N.2.2.2.2.1 ≤ R.cells ∧ ns + N.2.2.2.2.2 ≤ R.slots) (K : a_Go adK b D cA A p l e R s m args below meth c Q k θ w nc ns N) : W p l e R s m args below meth c H locs nc ns Q (F0 m pc sl (st.map (a_V θ))) := by
  obtain ⟨⟨hx, hb, hml, hown, hts⟩, -⟩ := id hX
  obtain ⟨x, r, rfl, h1⟩ := m1_inl (f := fun x r => a_jmp (x < 0) pc off ls r w) h0
  obtain ⟨t, ht, ⟨hq, rfl⟩ | ⟨hq, rfl⟩⟩ := jmp_inl h1
  · exact lv_if_lt hx hb (a_dec1 hX.kN hd rfl) ht (fun _ => K θ H locs sl a_ex_rf hI (hF.st (a_tl hF.2.2))) (fun q => absurd hq q)
  · exact lv_if_lt hx hb (a_dec1 hX.kN hd rfl) ht (fun q => absurd q hq) (fun _ => K θ H locs sl a_ex_rf hI (hF.st (a_tl hF.2.2)))
theorem s_ic_lt (hX : a_X adK adV b sc D cA A p l R s m args meth c d k) (hI : a_I D cA adK b A s H locs θ w) (hF : a_F θ w (mX k) sl ls st) {off : Int} (hd : mLk k pc = some (.if_icmp .lt off, len)) (h0 : ins sc d k pc ls st w (.if_icmp .lt off) = some N) (hr : nc + N.2.2.2.2.1 ≤ R.cells ∧ ns + N.2.2.2.2.2 ≤ R.slots) (K : a_Go adK b D cA A p l e R s m args below meth c Q k θ w nc ns N) : W p l e R s m args below meth c H locs nc ns Q (F0 m pc sl (st.map (a_V θ))) := by
  obtain ⟨⟨hx, hb, hml, hown, hts⟩, -⟩ := id hX
  obtain ⟨x, y, r, rfl, h1⟩ := m2_inl (f := fun x y r => a_jmp (x < y) pc off ls r w) h0
  obtain ⟨t, ht, ⟨hq, rfl⟩ | ⟨hq, rfl⟩⟩ := jmp_inl h1
  · exact lv_icmp_lt hx hb (a_dec1 hX.kN hd rfl) ht (fun _ => K θ H locs sl a_ex_rf hI (hF.st (a_tl (a_tl hF.2.2)))) (fun q => absurd hq q)
  · exact lv_icmp_lt hx hb (a_dec1 hX.kN hd rfl) ht (fun q => absurd q hq) (fun _ => K θ H locs sl a_ex_rf hI (hF.st (a_tl (a_tl hF.2.2))))
theorem s_if_ge (hX : a_X adK adV b sc D cA A p l R s m args meth c d k) (hI : a_I D cA adK b A s H locs θ w) (hF : a_F θ w (mX k) sl ls st) {off : Int} (hd : mLk k pc = some (.ifCond .ge off, len)) (h0 : ins sc d k pc ls st w (.ifCond .ge off) = some N) (hr : nc + N.2.2.2.2.1 ≤ R.cells ∧ ns + N.2.2.2.2.2 ≤ R.slots) (K : a_Go adK b D cA A p l e R s m args below meth c Q k θ w nc ns N) : W p l e R s m args below meth c H locs nc ns Q (F0 m pc sl (st.map (a_V θ))) := by
  obtain ⟨⟨hx, hb, hml, hown, hts⟩, -⟩ := id hX
  obtain ⟨x, r, rfl, h1⟩ := m1_inl (f := fun x r => a_jmp (0 ≤ x) pc off ls r w) h0
  obtain ⟨t, ht, ⟨hq, rfl⟩ | ⟨hq, rfl⟩⟩ := jmp_inl h1
  · exact lv_if_ge hx hb (a_dec1 hX.kN hd rfl) ht (fun _ => K θ H locs sl a_ex_rf hI (hF.st (a_tl hF.2.2))) (fun q => absurd hq q)
  · exact lv_if_ge hx hb (a_dec1 hX.kN hd rfl) ht (fun q => absurd q hq) (fun _ => K θ H locs sl a_ex_rf hI (hF.st (a_tl hF.2.2)))
theorem s_ic_ge (hX : a_X adK adV b sc D cA A p l R s m args meth c d k) (hI : a_I D cA adK b A s H locs θ w) (hF : a_F θ w (mX k) sl ls st) {off : Int} (hd : mLk k pc = some (.if_icmp .ge off, len)) (h0 : ins sc d k pc ls st w (.if_icmp .ge off) = some N) (hr : nc + N.2.2.2.2.1 ≤ R.cells ∧ ns + N.2.2.2.2.2 ≤ R.slots) (K : a_Go adK b D cA A p l e R s m args below meth c Q k θ w nc ns N) : W p l e R s m args below meth c H locs nc ns Q (F0 m pc sl (st.map (a_V θ))) := by
  obtain ⟨⟨hx, hb, hml, hown, hts⟩, -⟩ := id hX
  obtain ⟨x, y, r, rfl, h1⟩ := m2_inl (f := fun x y r => a_jmp (y ≤ x) pc off ls r w) h0
  obtain ⟨t, ht, ⟨hq, rfl⟩ | ⟨hq, rfl⟩⟩ := jmp_inl h1
  · exact lv_icmp_ge hx hb (a_dec1 hX.kN hd rfl) ht (fun _ => K θ H locs sl a_ex_rf hI (hF.st (a_tl (a_tl hF.2.2)))) (fun q => absurd hq q)
  · exact lv_icmp_ge hx hb (a_dec1 hX.kN hd rfl) ht (fun q => absurd q hq) (fun _ => K θ H locs sl a_ex_rf hI (hF.st (a_tl (a_tl hF.2.2))))
theorem s_if_gt (hX : a_X adK adV b sc D cA A p l R s m args meth c d k) (hI : a_I D cA adK b A s H locs θ w) (hF : a_F θ w (mX k) sl ls st) {off : Int} (hd : mLk k pc = some (.ifCond .gt off, len)) (h0 : ins sc d k pc ls st w (.ifCond .gt off) = some N) (hr : nc + N.2.2.2.2.1 ≤ R.cells ∧ ns + N.2.2.2.2.2 ≤ R.slots) (K : a_Go adK b D cA A p l e R s m args below meth c Q k θ w nc ns N) : W p l e R s m args below meth c H locs nc ns Q (F0 m pc sl (st.map (a_V θ))) := by
  obtain ⟨⟨hx, hb, hml, hown, hts⟩, -⟩ := id hX
  obtain ⟨x, r, rfl, h1⟩ := m1_inl (f := fun x r => a_jmp (0 < x) pc off ls r w) h0
  obtain ⟨t, ht, ⟨hq, rfl⟩ | ⟨hq, rfl⟩⟩ := jmp_inl h1
  · exact lv_if_gt hx hb (a_dec1 hX.kN hd rfl) ht (fun _ => K θ H locs sl a_ex_rf hI (hF.st (a_tl hF.2.2))) (fun q => absurd hq q)
  · exact lv_if_gt hx hb (a_dec1 hX.kN hd rfl) ht (fun q => absurd q hq) (fun _ => K θ H locs sl a_ex_rf hI (hF.st (a_tl hF.2.2)))
theorem s_ic_gt (hX : a_X adK adV b sc D cA A p l R s m args meth c d k) (hI : a_I D cA adK b A s H locs θ w) (hF : a_F θ w (mX k) sl ls st) {off : Int} (hd : mLk k pc = some (.if_icmp .gt off, len)) (h0 : ins sc d k pc ls st w (.if_icmp .gt off) = some N) (hr : nc + N.2.2.2.2.1 ≤ R.cells ∧ ns + N.2.2.2.2.2 ≤ R.slots) (K : a_Go adK b D cA A p l e R s m args below meth c Q k θ w nc ns N) : W p l e R s m args below meth c H locs nc ns Q (F0 m pc sl (st.map (a_V θ))) := by
  obtain ⟨⟨hx, hb, hml, hown, hts⟩, -⟩ := id hX
  obtain ⟨x, y, r, rfl, h1⟩ := m2_inl (f := fun x y r => a_jmp (y < x) pc off ls r w) h0
  obtain ⟨t, ht, ⟨hq, rfl⟩ | ⟨hq, rfl⟩⟩ := jmp_inl h1
  · exact lv_icmp_gt hx hb (a_dec1 hX.kN hd rfl) ht (fun _ => K θ H locs sl a_ex_rf hI (hF.st (a_tl (a_tl hF.2.2)))) (fun q => absurd hq q)
  · exact lv_icmp_gt hx hb (a_dec1 hX.kN hd rfl) ht (fun q => absurd q hq) (fun _ => K θ H locs sl a_ex_rf hI (hF.st (a_tl (a_tl hF.2.2))))
theorem s_if_le (hX : a_X adK adV b sc D cA A p l R s m args meth c d k) (hI : a_I D cA adK b A s H locs θ w) (hF : a_F θ w (mX k) sl ls st) {off : Int} (hd : mLk k pc = some (.ifCond .le off, len)) (h0 : ins sc d k pc ls st w (.ifCond .le off) = some N) (hr : nc + N.2.2.2.2.1 ≤ R.cells ∧ ns + N.2.2.2.2.2 ≤ R.slots) (K : a_Go adK b D cA A p l e R s m args below meth c Q k θ w nc ns N) : W p l e R s m args below meth c H locs nc ns Q (F0 m pc sl (st.map (a_V θ))) := by
  obtain ⟨⟨hx, hb, hml, hown, hts⟩, -⟩ := id hX
  obtain ⟨x, r, rfl, h1⟩ := m1_inl (f := fun x r => a_jmp (x ≤ 0) pc off ls r w) h0
  obtain ⟨t, ht, ⟨hq, rfl⟩ | ⟨hq, rfl⟩⟩ := jmp_inl h1
  · exact lv_if_le hx hb (a_dec1 hX.kN hd rfl) ht (fun _ => K θ H locs sl a_ex_rf hI (hF.st (a_tl hF.2.2))) (fun q => absurd hq q)
  · exact lv_if_le hx hb (a_dec1 hX.kN hd rfl) ht (fun q => absurd q hq) (fun _ => K θ H locs sl a_ex_rf hI (hF.st (a_tl hF.2.2)))
theorem s_ic_le (hX : a_X adK adV b sc D cA A p l R s m args meth c d k) (hI : a_I D cA adK b A s H locs θ w) (hF : a_F θ w (mX k) sl ls st) {off : Int} (hd : mLk k pc = some (.if_icmp .le off, len)) (h0 : ins sc d k pc ls st w (.if_icmp .le off) = some N) (hr : nc + N.2.2.2.2.1 ≤ R.cells ∧ ns + N.2.2.2.2.2 ≤ R.slots) (K : a_Go adK b D cA A p l e R s m args below meth c Q k θ w nc ns N) : W p l e R s m args below meth c H locs nc ns Q (F0 m pc sl (st.map (a_V θ))) := by
  obtain ⟨⟨hx, hb, hml, hown, hts⟩, -⟩ := id hX
  obtain ⟨x, y, r, rfl, h1⟩ := m2_inl (f := fun x y r => a_jmp (x ≤ y) pc off ls r w) h0
  obtain ⟨t, ht, ⟨hq, rfl⟩ | ⟨hq, rfl⟩⟩ := jmp_inl h1
  · exact lv_icmp_le hx hb (a_dec1 hX.kN hd rfl) ht (fun _ => K θ H locs sl a_ex_rf hI (hF.st (a_tl (a_tl hF.2.2)))) (fun q => absurd hq q)
  · exact lv_icmp_le hx hb (a_dec1 hX.kN hd rfl) ht (fun q => absurd q hq) (fun _ => K θ H locs sl a_ex_rf hI (hF.st (a_tl (a_tl hF.2.2))))
theorem tsw_inl {dflt lo hi : Int} {offs : Array Int} (h : a_tsw dflt lo hi offs pc ls st w = some N) : ∃ (x : Int32) (r : List Value), st = .int x :: r ∧ (((x.toInt < lo ∨ hi < x.toInt) ∧ a_to pc dflt ls r w = some N) ∨ (¬ (x.toInt < lo ∨ hi < x.toInt) ∧ ∃ off : Int, offs[(x.toInt - lo).toNat]? = some off ∧ a_to pc off ls r w = some N)) := by
  unfold a_tsw at h
  split at h
  · refine ⟨_, _, rfl, ?_⟩
    split at h
    · rename_i h1
      exact Or.inl ⟨h1, h⟩
    · rename_i h1
      split at h
      · rename_i off ho
        exact Or.inr ⟨h1, off, ho, h⟩
      · cases h
  · cases h
theorem lsw_inl {dflt : Int} {ps : Array (Int × Int)} (h : a_lsw dflt ps pc ls st w = some N) : ∃ (x : Int32) (r : List Value), st = .int x :: r ∧ (ps.toList.zip (ps.toList.drop 1)).all (fun (a, next) => a.1 < next.1) = true ∧ a_to pc (Op.lookupswitch.offset ps.toList dflt x.toInt) ls r w = some N := by
  unfold a_lsw at h
  split at h
  · split at h
    · rename_i h1
      exact ⟨_, _, rfl, h1, h⟩
    · cases h
  · cases h
theorem s_tsw (hX : a_X adK adV b sc D cA A p l R s m args meth c d k) (hI : a_I D cA adK b A s H locs θ w) (hF : a_F θ w (mX k) sl ls st) {dflt lo hi : Int} {offs : Array Int} (hd : mLk k pc = some (.tableswitch dflt lo hi offs, len)) (h0 : ins sc d k pc ls st w (.tableswitch dflt lo hi offs) = some N) (hr : nc + N.2.2.2.2.1 ≤ R.cells ∧ ns + N.2.2.2.2.2 ≤ R.slots) (K : a_Go adK b D cA A p l e R s m args below meth c Q k θ w nc ns N) : W p l e R s m args below meth c H locs nc ns Q (F0 m pc sl (st.map (a_V θ))) := by
  obtain ⟨⟨hx, hb, hml, hown, hts⟩, -⟩ := id hX
  obtain ⟨x, r, rfl, h1 | h1⟩ := tsw_inl h0
  · obtain ⟨hq, h1⟩ := h1
    obtain ⟨t, ht, rfl⟩ := to_inl h1
    exact lv_tableOut hx hb (a_dec hX.kN hd) hq ht (K θ H locs sl a_ex_rf hI (hF.st (a_tl hF.2.2)))
  · obtain ⟨hq, off, ho, h1⟩ := h1
    obtain ⟨t, ht, rfl⟩ := to_inl h1
    exact lv_tableIn hx hb (a_dec hX.kN hd) (fun q => hq (Or.inl q)) (fun q => hq (Or.inr q)) ho ht (K θ H locs sl a_ex_rf hI (hF.st (a_tl hF.2.2)))
theorem s_lsw (hX : a_X adK adV b sc D cA A p l R s m args meth c d k) (hI : a_I D cA adK b A s H locs θ w) (hF : a_F θ w (mX k) sl ls st) {dflt : Int} {ps : Array (Int × Int)} (hd : mLk k pc = some (.lookupswitch dflt ps, len)) (h0 : ins sc d k pc ls st w (.lookupswitch dflt ps) = some N) (hr : nc + N.2.2.2.2.1 ≤ R.cells ∧ ns + N.2.2.2.2.2 ≤ R.slots) (K : a_Go adK b D cA A p l e R s m args below meth c Q k θ w nc ns N) : W p l e R s m args below meth c H locs nc ns Q (F0 m pc sl (st.map (a_V θ))) := by
  obtain ⟨⟨hx, hb, hml, hown, hts⟩, -⟩ := id hX
  obtain ⟨x, r, rfl, hp, h1⟩ := lsw_inl h0
  obtain ⟨t, ht, rfl⟩ := to_inl h1
  exact lv_lookup hx hb (a_dec hX.kN hd) hp rfl ht (K θ H locs sl a_ex_rf hI (hF.st (a_tl hF.2.2)))
end AINS
end
section
/-! ===== the instructions that read and write the world ===== -/
theorem get_inl {c x pc : Nat} {ls : AL} {st : List Value} {w : AW} {N : AN} (h : a_get c x pc ls st w = some N) : ∃ (a ci f : Nat) (fs r : List Value) (v : Value), st = .ref a :: r ∧ a_lk (kF c) x = some (ci, f) ∧ w[a]? = some (.inr (ci, fs)) ∧ fs[f]? = some v ∧ N = (pc + 3, ls, v :: r, w, 0, 0) := by
  unfold a_get at h
  split at h
  · rename_i a r
    split at h
    · rename_i ci f hk
      split at h
      · rename_i cj fs hw
        split at h
        · rename_i e
          subst e
          split at h
          · rename_i v hv
            exact ⟨a, ci, f, fs, r, v, rfl, hk, hw, hv, nx_inl h⟩
          · cases h
        · cases h
      · cases h
    · cases h
  · cases h
theorem put_inl {k x pc : Nat} {ls : AL} {st : List Value} {w : AW} {N : AN} (h : a_put k x pc ls st w = some N) : ∃ (a ci f : Nat) (fs r : List Value) (v : Value), st = v :: .ref a :: r ∧ a_lk (kF (mK k)) x = some (ci, f) ∧ w[a]? = some (.inr (ci, fs)) ∧ f < fs.length ∧ a_fit (YF ci f) v = true ∧ ((TF ci f).2.2.2 = false ∨ (mD k = 2 ∧ mK k = ci)) ∧ N = (pc + 3, ls, r, w.set a (.inr (ci, fs.set f v)), 0, 0) := by
  unfold a_put at h
  split at h
  · rename_i v a r
    split at h
    · rename_i ci f hk
      split at h
      · rename_i cj fs hw
        split at h
        · rename_i e
          obtain ⟨⟨e1, e2⟩, e3, e4⟩ := e
          subst e1
          exact ⟨a, ci, f, fs, r, v, rfl, hk, hw, e2, e3, e4, nx_inl h⟩
        · cases h
      · cases h
    · cases h
  · cases h
theorem a_fit_V {ty : FieldType} {v : Value} (θ : Nat → Nat) (h : a_fit ty v = true) : narrow ty (a_V θ v) = a_V θ v ∧ fits ty (a_V θ v) = true := by
  cases ty <;> cases v <;> first | exact ⟨rfl, rfl⟩ | cases h
theorem a_in {i : Int32} {n : Nat} (h : 0 ≤ i) (h2 : i.toNatClampNeg < n) : vp_in i n := by
  unfold vp_in
  rintro (q | q)
  · exact absurd h (Int32.not_le.mpr q)
  · omega
theorem ild_inl {t pc : Nat} {sc : List Int32} {ls : AL} {st : List Value} {w : AW} {N : AN} (h : a_ild t sc pc ls st w = some N) : ∃ (i x : Int32) (a : Nat) (r : List Value), st = .int i :: .ref a :: r ∧ 0 ≤ i ∧ N = (pc + 1, ls, .int x :: r, w, 0, 0) ∧ ((a = a_SC ∧ t = 0 ∧ sc[i.toNatClampNeg]? = some x) ∨ ∃ l : List Int32, w[a]? = some (.inl (t, .inl l)) ∧ l[i.toNatClampNeg]? = some x) := by
  unfold a_ild at h
  split at h
  · rename_i i a r
    split at h
    · rename_i h0
      split at h
      · rename_i h1
        split at h
        · rename_i x hx
          exact ⟨i, x, a, r, rfl, h0, nx_inl h, Or.inl ⟨h1.1, h1.2, hx⟩⟩
        · cases h
      · split at h
        · rename_i u l hw
          split at h
          · rename_i e
            subst e
            split at h
            · rename_i x hx
              exact ⟨i, x, a, r, rfl, h0, nx_inl h, Or.inr ⟨l, hw, hx⟩⟩
            · cases h
          · cases h
        · cases h
    · cases h
  · cases h
theorem lld_inl {pc : Nat} {ls : AL} {st : List Value} {w : AW} {N : AN} (h : a_lld pc ls st w = some N) : ∃ (i : Int32) (x : Int64) (a : Nat) (r : List Value) (l : List Int64), st = .int i :: .ref a :: r ∧ 0 ≤ i ∧ N = (pc + 1, ls, .long x :: r, w, 0, 0) ∧ w[a]? = some (.inl (2, .inr l)) ∧ l[i.toNatClampNeg]? = some x := by
  unfold a_lld at h
  split at h
  · rename_i i a r
    split at h
    · rename_i h0
      split at h
      · rename_i u l hw
        split at h
        · rename_i e
          subst e
          split at h
          · rename_i x hx
            exact ⟨i, x, a, r, l, rfl, h0, nx_inl h, hw, hx⟩
          · cases h
        · cases h
      · cases h
    · cases h
  · cases h
theorem ist_inl {pc : Nat} {ls : AL} {st : List Value} {w : AW} {N : AN} (h : a_ist pc ls st w = some N) : ∃ (i x : Int32) (a : Nat) (r : List Value) (l : List Int32), st = .int x :: .int i :: .ref a :: r ∧ 0 ≤ i ∧ w[a]? = some (.inl (0, .inl l)) ∧ i.toNatClampNeg < l.length ∧ N = (pc + 1, ls, r, w.set a (.inl (0, .inl (l.set i.toNatClampNeg x))), 0, 0) := by
  unfold a_ist at h
  split at h
  · rename_i x i a r
    split at h
    · rename_i h0
      split at h
      · rename_i u l hw
        split at h
        · rename_i e
          obtain ⟨e1, e2⟩ := e
          subst e1
          exact ⟨i, x, a, r, l, rfl, h0, hw, e2, nx_inl h⟩
        · cases h
      · cases h
    · cases h
  · cases h
theorem bst_inl {pc : Nat} {ls : AL} {st : List Value} {w : AW} {N : AN} (h : a_bst pc ls st w = some N) : ∃ (i x : Int32) (a : Nat) (r : List Value) (l : List Int32), st = .int x :: .int i :: .ref a :: r ∧ 0 ≤ i ∧ w[a]? = some (.inl (1, .inl l)) ∧ i.toNatClampNeg < l.length ∧ N = (pc + 1, ls, r, w.set a (.inl (1, .inl (l.set i.toNatClampNeg x.toInt8.toInt32))), 0, 0) := by
  unfold a_bst at h
  split at h
  · rename_i x i a r
    split at h
    · rename_i h0
      split at h
      · rename_i u l hw
        split at h
        · rename_i e
          obtain ⟨e1, e2⟩ := e
          subst e1
          exact ⟨i, x, a, r, l, rfl, h0, hw, e2, nx_inl h⟩
        · cases h
      · cases h
    · cases h
  · cases h
theorem lst_inl {pc : Nat} {ls : AL} {st : List Value} {w : AW} {N : AN} (h : a_lst pc ls st w = some N) : ∃ (i : Int32) (x : Int64) (a : Nat) (r : List Value) (l : List Int64), st = .long x :: .int i :: .ref a :: r ∧ 0 ≤ i ∧ w[a]? = some (.inl (2, .inr l)) ∧ i.toNatClampNeg < l.length ∧ N = (pc + 1, ls, r, w.set a (.inl (2, .inr (l.set i.toNatClampNeg x))), 0, 0) := by
  unfold a_lst at h
  split at h
  · rename_i x i a r
    split at h
    · rename_i h0
      split at h
      · rename_i u l hw
        split at h
        · rename_i e
          obtain ⟨e1, e2⟩ := e
          subst e1
          exact ⟨i, x, a, r, l, rfl, h0, hw, e2, nx_inl h⟩
        · cases h
      · cases h
    · cases h
  · cases h
theorem aln_inl {pc : Nat} {sc : List Int32} {ls : AL} {st : List Value} {w : AW} {N : AN} (h : a_aln sc pc ls st w = some N) : ∃ (a : Nat) (r : List Value), st = .ref a :: r ∧ ((a = a_SC ∧ N = (pc + 1, ls, .int (Int32.ofNat sc.length) :: r, w, 0, 0)) ∨ (∃ (u : Nat) (l : List Int32), w[a]? = some (.inl (u, .inl l)) ∧ u < 2 ∧ N = (pc + 1, ls, .int (Int32.ofNat l.length) :: r, w, 0, 0)) ∨ ∃ l : List Int64, w[a]? = some (.inl (2, .inr l)) ∧ N = (pc + 1, ls, .int (Int32.ofNat l.length) :: r, w, 0, 0)) := by
  unfold a_aln at h
  split at h
  · rename_i a r
    refine ⟨a, r, rfl, ?_⟩
    split at h
    · rename_i e
      exact Or.inl ⟨e, nx_inl h⟩
    · split at h
      · rename_i u l hw
        split at h
        · rename_i e
          exact Or.inr (Or.inl ⟨u, l, hw, e, nx_inl h⟩)
        · cases h
      · rename_i u l hw
        split at h
        · rename_i e
          subst e
          exact Or.inr (Or.inr ⟨l, hw, nx_inl h⟩)
        · cases h
      · cases h
  · cases h
theorem a_upd {l : List Int32} {i : Nat} {x : Int32} (h : i < l.length) : upd (fun j => l.getD j 0) i x = fun j => (l.set i x).getD j 0 := by
  funext j
  unfold upd
  simp only [List.getD_eq_getElem?_getD, List.getElem?_set]
  by_cases e : j = i
  · subst e; simp [h]
  · simp [e, Ne.symm e]
theorem a_updL {l : List Int64} {i : Nat} {x : Int64} (h : i < l.length) : vp_updL (fun j => l.getD j 0) i x = fun j => (l.set i x).getD j 0 := by
  funext j
  unfold vp_updL
  simp only [List.getD_eq_getElem?_getD, List.getElem?_set]
  by_cases e : j = i
  · subst e; simp [h]
  · simp [e, Ne.symm e]
theorem a_gD {α : Type} {l : List α} {i : Nat} {x d : α} (h : l[i]? = some x) : l.getD i d = x := by simp [List.getD_eq_getElem?_getD, h]
theorem a_lt {α : Type} {l : List α} {i : Nat} {x : α} (h : l[i]? = some x) : i < l.length := (List.getElem?_eq_some_iff.mp h).1
section AHP
variable {p : Program} {l : Launch} {e : Env} {R : Room} {s : State} {m : MethodId} {args : Array Value} {below : List Frame} {meth : Method} {c : Code} {H : Heap} {locs : List Loc} {Q : State → Prop}
variable {adK adV : Nat → Nat} {b : Nat} {sc : List Int32} {D : va_G} {cA : Nat → ClassId} {A : Nat → Prop} {θ : Nat → Nat} {w : AW} {ls : AL} {st : List Value} {sl : Array Slot} {d k pc len nc ns : Nat} {N : AN}
/-- one cell has been written -/
theorem a_I.set {H1 : Heap} {locs1 : List Loc} {a : Nat} {x : AE} (hI : a_I D cA adK b A s H locs θ w) (hx : ∀ (c : Nat) (fs : List Value), x = .inr (c, fs) → ∀ v ∈ fs, a_rk w.length v) (hP : va_P D vwCl ((a_C cA θ w).set a (θ a, a_E cA θ x)) H1) (hD : va_D A ((a_C cA θ w).set a (θ a, a_E cA θ x))) (hS : va_S A s.heap H1 locs1) : a_I D cA adK b A s H1 locs1 θ (w.set a x) := by
  refine ⟨by rw [a_C_set]; exact hP, by rw [a_C_set]; exact hD, hS, a_wf_set hI.2.2.2.1 hx, by rw [List.length_set]; exact hI.2.2.2.2.1, hI.2.2.2.2.2⟩
theorem a_F.set {n a : Nat} {x : AE} {st' : List Value} (hF : a_F θ w n sl ls st) (h' : ∀ v ∈ st', a_rk w.length v) : a_F θ (w.set a x) n sl ls st' := ⟨hF.1, by rw [List.length_set]; exact hF.2.1, by rw [List.length_set]; exact h'⟩
theorem s_getfield (hX : a_X adK adV b sc D cA A p l R s m args meth c d k) (hI : a_I D cA adK b A s H locs θ w) (hF : a_F θ w (mX k) sl ls st) {x : Nat} (hd : mLk k pc = some (.getfield x, len)) (h0 : ins sc d k pc ls st w (.getfield x) = some N) (hr : nc + N.2.2.2.2.1 ≤ R.cells ∧ ns + N.2.2.2.2.2 ≤ R.slots) (K : a_Go adK b D cA A p l e R s m args below meth c Q k θ w nc ns N) : W p l e R s m args below meth c H locs nc ns Q (F0 m pc sl (st.map (a_V θ))) := by
  obtain ⟨⟨hx, hb, hml, hown, hts⟩, -⟩ := id hX
  obtain ⟨a, ci, f, fs, r, v, rfl, hk, hw, hv, rfl⟩ := get_inl h0
  obtain ⟨⟨h1, h2, h3⟩, h4⟩ := a_kF hX.kc hk
  have hkn : a_rk w.length v := hI.2.2.2.1 a ci fs hw v (List.mem_of_getElem? hv)
  exact va_get (ref := RN ci) (D := D) (v := a_V θ v) hx hb hts (a_inU h1) hown hX.K hI.1 a (a_C_get hw) (a_vw h1) f h2 (hts _ h4) (fun z hz => by rw [h3] at hz; exact hz) (by rw [List.getElem?_map, hv]; rfl) (a_dec1 hX.kN hd rfl) (K θ H locs sl a_ex_rf hI (hF.st (a_kc hkn (a_tl hF.2.2))))
theorem s_putfield (hX : a_X adK adV b sc D cA A p l R s m args meth c d k) (hI : a_I D cA adK b A s H locs θ w) (hF : a_F θ w (mX k) sl ls st) {x : Nat} (hd : mLk k pc = some (.putfield x, len)) (h0 : ins sc d k pc ls st w (.putfield x) = some N) (hr : nc + N.2.2.2.2.1 ≤ R.cells ∧ ns + N.2.2.2.2.2 ≤ R.slots) (K : a_Go adK b D cA A p l e R s m args below meth c Q k θ w nc ns N) : W p l e R s m args below meth c H locs nc ns Q (F0 m pc sl (st.map (a_V θ))) := by
  obtain ⟨⟨hx, hb, hml, hown, hts⟩, -, -, hin, -⟩ := id hX
  obtain ⟨a, ci, f, fs, r, v, rfl, hk, hw, hf, hfit, hfin, rfl⟩ := put_inl h0
  obtain ⟨⟨h1, h2, h3⟩, h4⟩ := a_kF hX.kc hk
  have hfv : ∀ u ∈ fs.set f v, a_rk w.length u := fun u hu => (List.mem_or_eq_of_mem_set hu).elim (fun q => hI.2.2.2.1 a ci fs hw u q) (fun q => by rw [q]; exact a_hd hF.2.2)
  have goes : ∀ (H1 : Heap) (locs1 : List Loc), va_P D vwCl ((a_C cA θ w).set a (θ a, .inr (ci, (fs.map (a_V θ)).set f (a_V θ v)))) H1 → va_D A ((a_C cA θ w).set a (θ a, .inr (ci, (fs.map (a_V θ)).set f (a_V θ v)))) → va_S A s.heap H1 locs1 → W p l e R s m args below meth c H1 locs1 nc ns Q (F0 m (pc + 3) sl (r.map (a_V θ))) := by
    intro H1 locs1 hP hD hS
    have e1 : (fs.map (a_V θ)).set f (a_V θ v) = (fs.set f v).map (a_V θ) := by rw [List.map_set]
    rw [e1] at hP hD
    exact K θ H1 locs1 sl a_ex_rf (hI.set (fun c9 fs9 q9 => by cases q9; exact hfv) hP hD hS) (hF.set (a_tl (a_tl hF.2.2)))
  rcases hfin with hfin | ⟨hd2, hkc⟩
  · exact va_put (ref := RN ci) (D := D) (v := a_V θ v) hx hb hts (a_inU h1) (YF ci) (a_tyF h1) (a_nmF h1) hown hX.K hI.1 hI.2.1 hI.2.2.1 a (a_C_get hw) (a_vw h1) f h2 (hts _ h4) (fun z hz => by rw [h3] at hz; exact hz) hfin (a_tyF h1 f h2) (a_fit_V θ hfit).1 (a_fit_V θ hfit).2 (by rw [List.length_map]; exact hf) (a_dec1 hX.kN hd rfl) goes
  · by_cases hfb : (TF ci f).2.2.2 = false
    · exact va_put (ref := RN ci) (D := D) (v := a_V θ v) hx hb hts (a_inU h1) (YF ci) (a_tyF h1) (a_nmF h1) hown hX.K hI.1 hI.2.1 hI.2.2.1 a (a_C_get hw) (a_vw h1) f h2 (hts _ h4) (fun z hz => by rw [h3] at hz; exact hz) hfb (a_tyF h1 f h2) (a_fit_V θ hfit).1 (a_fit_V θ hfit).2 (by rw [List.length_map]; exact hf) (a_dec1 hX.kN hd rfl) goes
    · exact va_putF (ref := RN ci) (D := D) (v := a_V θ v) hx hb hts (a_inU h1) (YF ci) (a_tyF h1) (a_nmF h1) hown hX.K hI.1 hI.2.1 hI.2.2.1 a (a_C_get hw) (a_vw h1) f h2 (hts _ h4) (fun z hz => by rw [h3] at hz; exact hz) (by simpa using hfb) (hin hd2) (by rw [h3, hkc]) (a_tyF h1 f h2) (a_fit_V θ hfit).1 (a_fit_V θ hfit).2 (by rw [List.length_map]; exact hf) (a_dec1 hX.kN hd rfl) goes
theorem s_iaload (hX : a_X adK adV b sc D cA A p l R s m args meth c d k) (hI : a_I D cA adK b A s H locs θ w) (hF : a_F θ w (mX k) sl ls st) (hd : mLk k pc = some (.iaload, len)) (h0 : ins sc d k pc ls st w .iaload = some N) (hr : nc + N.2.2.2.2.1 ≤ R.cells ∧ ns + N.2.2.2.2.2 ≤ R.slots) (K : a_Go adK b D cA A p l e R s m args below meth c Q k θ w nc ns N) : W p l e R s m args below meth c H locs nc ns Q (F0 m pc sl (st.map (a_V θ))) := by
  obtain ⟨⟨hx, hb, hml, hown, hts⟩, -⟩ := id hX
  obtain ⟨i, x, a, r, rfl, hi, rfl, ⟨rfl, -, hv⟩ | ⟨l9, hw, hv⟩⟩ := ild_inl h0
  · have K1 := K θ H locs sl a_ex_rf hI (hF.st (a_kc (a_rk_int x) (a_tl (a_tl hF.2.2))))
    have hE := hX.E.2.2.2.2.2.2.2
    have e1 : θ a_SC = b := hI.2.2.2.2.2.1
    show W p l e R s m args below meth c H locs nc ns Q (F0 m pc sl (.int i :: .ref (θ a_SC) :: r.map (a_V θ)))
    rw [e1]
    refine va_sld hx hb hE.1 hE.2.1 hE.2.2 hI.2.2.1 (a_in hi (a_lt hv)) (a_dec1 hX.kN hd rfl) ?_
    rw [a_gD hv]
    exact K1
  · have K1 := K θ H locs sl a_ex_rf hI (hF.st (a_kc (a_rk_int x) (a_tl (a_tl hF.2.2))))
    refine va_iald hx hb hX.K hI.1 a 0 (a_C_get hw) rfl (a_in hi (a_lt hv)) (a_dec1 hX.kN hd rfl) ?_
    rw [a_gD hv]
    exact K1
theorem s_baload (hX : a_X adK adV b sc D cA A p l R s m args meth c d k) (hI : a_I D cA adK b A s H locs θ w) (hF : a_F θ w (mX k) sl ls st) (hd : mLk k pc = some (.baload, len)) (h0 : ins sc d k pc ls st w .baload = some N) (hr : nc + N.2.2.2.2.1 ≤ R.cells ∧ ns + N.2.2.2.2.2 ≤ R.slots) (K : a_Go adK b D cA A p l e R s m args below meth c Q k θ w nc ns N) : W p l e R s m args below meth c H locs nc ns Q (F0 m pc sl (st.map (a_V θ))) := by
  obtain ⟨⟨hx, hb, hml, hown, hts⟩, -⟩ := id hX
  obtain ⟨i, x, a, r, rfl, hi, rfl, ⟨-, h1, -⟩ | ⟨l9, hw, hv⟩⟩ := ild_inl h0
  · cases h1
  · have K1 := K θ H locs sl a_ex_rf hI (hF.st (a_kc (a_rk_int x) (a_tl (a_tl hF.2.2))))
    refine va_bald hx hb hX.K hI.1 a 1 (a_C_get hw) rfl (a_in hi (a_lt hv)) (a_dec1 hX.kN hd rfl) ?_
    rw [a_gD hv]
    exact K1
theorem s_laload (hX : a_X adK adV b sc D cA A p l R s m args meth c d k) (hI : a_I D cA adK b A s H locs θ w) (hF : a_F θ w (mX k) sl ls st) (hd : mLk k pc = some (.laload, len)) (h0 : ins sc d k pc ls st w .laload = some N) (hr : nc + N.2.2.2.2.1 ≤ R.cells ∧ ns + N.2.2.2.2.2 ≤ R.slots) (K : a_Go adK b D cA A p l e R s m args below meth c Q k θ w nc ns N) : W p l e R s m args below meth c H locs nc ns Q (F0 m pc sl (st.map (a_V θ))) := by
  obtain ⟨⟨hx, hb, hml, hown, hts⟩, -⟩ := id hX
  obtain ⟨i, x, a, r, l9, rfl, hi, rfl, hw, hv⟩ := lld_inl h0
  have K1 := K θ H locs sl a_ex_rf hI (hF.st (a_kc (a_rk_long x) (a_tl (a_tl hF.2.2))))
  refine va_lald hx hb hX.K hI.1 a 2 (a_C_get hw) rfl (a_in hi (a_lt hv)) (a_dec1 hX.kN hd rfl) ?_
  rw [a_gD hv]
  exact K1
theorem s_iastore (hX : a_X adK adV b sc D cA A p l R s m args meth c d k) (hI : a_I D cA adK b A s H locs θ w) (hF : a_F θ w (mX k) sl ls st) (hd : mLk k pc = some (.iastore, len)) (h0 : ins sc d k pc ls st w .iastore = some N) (hr : nc + N.2.2.2.2.1 ≤ R.cells ∧ ns + N.2.2.2.2.2 ≤ R.slots) (K : a_Go adK b D cA A p l e R s m args below meth c Q k θ w nc ns N) : W p l e R s m args below meth c H locs nc ns Q (F0 m pc sl (st.map (a_V θ))) := by
  obtain ⟨⟨hx, hb, hml, hown, hts⟩, -⟩ := id hX
  obtain ⟨i, x, a, r, l9, rfl, hi, hw, hlt, rfl⟩ := ist_inl h0
  refine va_iast hx hb hX.K hI.1 hI.2.1 hI.2.2.1 a 0 (a_C_get hw) rfl (a_in hi hlt) (a_dec1 hX.kN hd rfl) (fun H1 locs1 hP hD hS => ?_)
  rw [a_upd hlt] at hP hD
  have e1 : (θ a, (Sum.inl (cA 0, l9.length, .inl (fun j => (l9.set i.toNatClampNeg x).getD j 0)) : va_E)) = (θ a, a_E cA θ (.inl (0, .inl (l9.set i.toNatClampNeg x)))) := by simp [a_E]
  rw [e1] at hP hD
  exact K θ H1 locs1 sl a_ex_rf (hI.set (fun c9 fs9 q9 => by cases q9) hP hD hS) (hF.set (a_tl (a_tl (a_tl hF.2.2))))
theorem s_bastore (hX : a_X adK adV b sc D cA A p l R s m args meth c d k) (hI : a_I D cA adK b A s H locs θ w) (hF : a_F θ w (mX k) sl ls st) (hd : mLk k pc = some (.bastore, len)) (h0 : ins sc d k pc ls st w .bastore = some N) (hr : nc + N.2.2.2.2.1 ≤ R.cells ∧ ns + N.2.2.2.2.2 ≤ R.slots) (K : a_Go adK b D cA A p l e R s m args below meth c Q k θ w nc ns N) : W p l e R s m args below meth c H locs nc ns Q (F0 m pc sl (st.map (a_V θ))) := by
  obtain ⟨⟨hx, hb, hml, hown, hts⟩, -⟩ := id hX
  obtain ⟨i, x, a, r, l9, rfl, hi, hw, hlt, rfl⟩ := bst_inl h0
  refine va_bast hx hb hX.K hI.1 hI.2.1 hI.2.2.1 a 1 (a_C_get hw) rfl (a_in hi hlt) (a_dec1 hX.kN hd rfl) (fun H1 locs1 hP hD hS => ?_)
  rw [vp_nar_byte, a_upd hlt] at hP hD
  have e1 : (θ a, (Sum.inl (cA 1, l9.length, .inl (fun j => (l9.set i.toNatClampNeg x.toInt8.toInt32).getD j 0)) : va_E)) = (θ a, a_E cA θ (.inl (1, .inl (l9.set i.toNatClampNeg x.toInt8.toInt32)))) := by simp [a_E]
  rw [e1] at hP hD
  exact K θ H1 locs1 sl a_ex_rf (hI.set (fun c9 fs9 q9 => by cases q9) hP hD hS) (hF.set (a_tl (a_tl (a_tl hF.2.2))))
theorem s_lastore (hX : a_X adK adV b sc D cA A p l R s m args meth c d k) (hI : a_I D cA adK b A s H locs θ w) (hF : a_F θ w (mX k) sl ls st) (hd : mLk k pc = some (.lastore, len)) (h0 : ins sc d k pc ls st w .lastore = some N) (hr : nc + N.2.2.2.2.1 ≤ R.cells ∧ ns + N.2.2.2.2.2 ≤ R.slots) (K : a_Go adK b D cA A p l e R s m args below meth c Q k θ w nc ns N) : W p l e R s m args below meth c H locs nc ns Q (F0 m pc sl (st.map (a_V θ))) := by
  obtain ⟨⟨hx, hb, hml, hown, hts⟩, -⟩ := id hX
  obtain ⟨i, x, a, r, l9, rfl, hi, hw, hlt, rfl⟩ := lst_inl h0
  refine va_last hx hb hX.K hI.1 hI.2.1 hI.2.2.1 a 2 (a_C_get hw) rfl (a_in hi hlt) (a_dec1 hX.kN hd rfl) (fun H1 locs1 hP hD hS => ?_)
  rw [a_updL hlt] at hP hD
  have e1 : (θ a, (Sum.inl (cA 2, l9.length, .inr (.inl (fun j => (l9.set i.toNatClampNeg x).getD j 0))) : va_E)) = (θ a, a_E cA θ (.inl (2, .inr (l9.set i.toNatClampNeg x)))) := by simp [a_E]
  rw [e1] at hP hD
  exact K θ H1 locs1 sl a_ex_rf (hI.set (fun c9 fs9 q9 => by cases q9) hP hD hS) (hF.set (a_tl (a_tl (a_tl hF.2.2))))
theorem s_arraylength (hX : a_X adK adV b sc D cA A p l R s m args meth c d k) (hI : a_I D cA adK b A s H locs θ w) (hF : a_F θ w (mX k) sl ls st) (hd : mLk k pc = some (.arraylength, len)) (h0 : ins sc d k pc ls st w .arraylength = some N) (hr : nc + N.2.2.2.2.1 ≤ R.cells ∧ ns + N.2.2.2.2.2 ≤ R.slots) (K : a_Go adK b D cA A p l e R s m args below meth c Q k θ w nc ns N) : W p l e R s m args below meth c H locs nc ns Q (F0 m pc sl (st.map (a_V θ))) := by
  obtain ⟨⟨hx, hb, hml, hown, hts⟩, -⟩ := id hX
  obtain ⟨a, r, rfl, ⟨rfl, rfl⟩ | ⟨u, l9, hw, hu, rfl⟩ | ⟨l9, hw, rfl⟩⟩ := aln_inl h0
  · have K1 := K θ H locs sl a_ex_rf hI (hF.st (a_kc (a_rk_int _) (a_tl hF.2.2)))
    have hE := hX.E.2.2.2.2.2.2.2
    have e1 : θ a_SC = b := hI.2.2.2.2.2.1
    show W p l e R s m args below meth c H locs nc ns Q (F0 m pc sl (.ref (θ a_SC) :: r.map (a_V θ)))
    rw [e1]
    exact va_slen hx hb hE.1 hE.2.1 hE.2.2 hI.2.2.1 (a_dec1 hX.kN hd rfl) K1
  · have K1 := K θ H locs sl a_ex_rf hI (hF.st (a_kc (a_rk_int _) (a_tl hF.2.2)))
    rcases (show u = 0 ∨ u = 1 by omega) with rfl | rfl
    · exact va_alen hx hb hX.K hI.1 a 0 (a_C_get hw) rfl rfl (a_dec1 hX.kN hd rfl) K1
    · exact va_alen hx hb hX.K hI.1 a 1 (a_C_get hw) rfl rfl (a_dec1 hX.kN hd rfl) K1
  · have K1 := K θ H locs sl a_ex_rf hI (hF.st (a_kc (a_rk_int _) (a_tl hF.2.2)))
    exact va_alen hx hb hX.K hI.1 a 2 (a_C_get hw) rfl rfl (a_dec1 hX.kN hd rfl) K1
/-- one cell more -/
theorem a_I.push {H1 : Heap} {q : Nat} {x : AE} (hI : a_I D cA adK b A s H locs θ w) (hw : w.length < a_SC) (hx : ∀ (c : Nat) (fs : List Value), x = .inr (c, fs) → ∀ v ∈ fs, a_rk w.length v) (hP : va_P D vwCl (a_C cA θ w ++ [(q, a_E cA θ x)]) H1) (hD : va_D A (a_C cA θ w ++ [(q, a_E cA θ x)])) (hS : va_S A s.heap H1 locs) : a_ex w.length θ (va_up θ w.length q) ∧ a_I D cA adK b A s H1 locs (va_up θ w.length q) (w ++ [x]) := by
  have hex : a_ex w.length θ (va_up θ w.length q) := fun y hy => va_up_ne θ q (by omega)
  have e1 : a_E cA (va_up θ w.length q) x = a_E cA θ x := by
    rcases x with ⟨t, l9 | l9⟩ | ⟨c9, fs⟩
    · rfl
    · rfl
    · show Sum.inr (c9, fs.map (a_V (va_up θ w.length q))) = Sum.inr (c9, fs.map (a_V θ))
      rw [a_Vs_ex hex (hx c9 fs rfl)]
  have e2 : a_C cA (va_up θ w.length q) (w ++ [x]) = a_C cA θ w ++ [(q, a_E cA θ x)] := by
    rw [a_C_push, a_C_ex hex hI.2.2.2.1, e1, va_up_self]
  refine ⟨hex, by rw [e2]; exact hP, by rw [e2]; exact hD, hS, a_wf_push hI.2.2.2.1 (fun c9 fs9 q9 v hv => a_rk_mono (hx c9 fs9 q9 v hv) (Nat.le_succ _)), by rw [List.length_append]; exact hw, ?_, fun i hi => ?_⟩
  · rw [hex a_SC (Or.inr (Nat.le_refl _))]; exact hI.2.2.2.2.2.1
  · rw [hex _ (Or.inr (by unfold a_SB a_SC; omega))]; exact hI.2.2.2.2.2.2 i hi
theorem a_def_len (c9 : Nat) : (a_def c9).length = NF c9 := by simp [a_def]
theorem a_def_V (θ : Nat → Nat) (c9 : Nat) : (a_def c9).map (a_V θ) = a_def c9 := by
  unfold a_def
  rw [List.map_map]
  exact List.map_congr_left fun j _ => by
    show a_V θ (defaultValue (YF c9 j)) = defaultValue (YF c9 j)
    cases YF c9 j <;> rfl
theorem a_def_k {n c9 : Nat} : ∀ v ∈ a_def c9, a_rk n v := by
  intro v hv
  obtain ⟨j, -, rfl⟩ := List.mem_map.mp hv
  intro a ha
  cases hY : YF c9 j <;> rw [hY] at ha <;> cases ha
theorem new_inl {x : Nat} (h : a_new k x pc ls st w = some N) : ∃ v : Nat, a_lk (kX (mK k)) x = some v ∧ v < 9 ∧ w.length < a_SC ∧ N = (pc + 3, ls, .ref w.length :: st, w ++ [.inr (v, a_def v)], 1, NF v) := by
  unfold a_new at h
  split at h
  · rename_i v hv
    split at h
    · rename_i h1
      exact ⟨v, hv, h1.1, h1.2, (Option.some.inj h).symm⟩
    · cases h
  · cases h
theorem s_new (hX : a_X adK adV b sc D cA A p l R s m args meth c d k) (hI : a_I D cA adK b A s H locs θ w) (hF : a_F θ w (mX k) sl ls st) {x : Nat} (hd : mLk k pc = some (.new x, len)) (h0 : ins sc d k pc ls st w (.new x) = some N) (hr : nc + N.2.2.2.2.1 ≤ R.cells ∧ ns + N.2.2.2.2.2 ≤ R.slots) (K : a_Go adK b D cA A p l e R s m args below meth c Q k θ w nc ns N) : W p l e R s m args below meth c H locs nc ns Q (F0 m pc sl (st.map (a_V θ))) := by
  obtain ⟨⟨hx, hb, hml, hown, hts⟩, -⟩ := id hX
  obtain ⟨v, hv, h1, h2, rfl⟩ := new_inl h0
  have hcl : Cond.classLink (RN (mK k)) x (RN v) ∈ ALLW := by
    have h3 := a_inKX hX.kc (a_lk_mem hv)
    have h4 : xNm v = RN v := by unfold xNm; split <;> first | omega | rfl
    unfold wX at h3
    rw [h4] at h3
    exact h3
  refine va_new (fs := a_def v) hx hb hts (a_inU h1) (YF v) (a_tyF h1) hown (hts _ hcl) (hts _ (a_inN h1)) (hts _ (a_inI (by omega))) hX.K hI.1 hI.2.1 hI.2.2.1 hX.aA (a_vw h1) (fun j hj => by simp [vp_V, a_def, hj]) hr.1 hr.2 (a_dec1 hX.kN hd rfl) (fun q H1 hP hD hS => ?_)
  have e1 : (q, (Sum.inr (v, a_def v) : va_E)) = (q, a_E cA θ (.inr (v, a_def v))) := by
    show _ = (q, Sum.inr (v, (a_def v).map (a_V θ)))
    rw [a_def_V]
  rw [e1] at hP hD
  obtain ⟨hex, hI1⟩ := hI.push h2 (fun c9 fs9 q9 => by cases q9; exact a_def_k) hP hD hS
  have K1 := K (va_up θ w.length q) H1 locs sl hex hI1 ((hF.ex hex (by simp)).st (a_kc (a_rk_ref (Or.inl (by simp))) (fun u hu => a_rk_mono (hF.2.2 u hu) (by simp))))
  have e2 : (Value.ref w.length :: st).map (a_V (va_up θ w.length q)) = .ref q :: st.map (a_V θ) := by
    rw [List.map_cons, a_Vs_ex hex hF.2.2]
    show Value.ref (va_up θ w.length q w.length) :: _ = _
    rw [va_up_self]
  rw [e2] at K1
  exact K1
theorem nwa_inl {ty : ArrayType} (h : a_nwa ty pc ls st w = some N) : ∃ (n : Int32) (r : List Value), st = .int n :: r ∧ 0 ≤ n ∧ n.toNatClampNeg ≤ 10000 ∧ w.length < a_SC ∧
    ((ty = .int ∧ N = (pc + 2, ls, .ref w.length :: r, w ++ [.inl (0, .inl (List.replicate n.toNatClampNeg 0))], 1, n.toNatClampNeg)) ∨ (ty = .byte ∧ N = (pc + 2, ls, .ref w.length :: r, w ++ [.inl (1, .inl (List.replicate n.toNatClampNeg 0))], 1, n.toNatClampNeg)) ∨ (ty = .long ∧ N = (pc + 2, ls, .ref w.length :: r, w ++ [.inl (2, .inr (List.replicate n.toNatClampNeg 0))], 1, n.toNatClampNeg))) := by
  unfold a_nwa at h
  split at h
  · rename_i n r
    split at h
    · rename_i h1
      refine ⟨n, r, rfl, h1.1.1, h1.1.2, h1.2, ?_⟩
      cases ty
      case int => exact Or.inl ⟨rfl, (Option.some.inj h).symm⟩
      case byte => exact Or.inr (Or.inl ⟨rfl, (Option.some.inj h).symm⟩)
      case long => exact Or.inr (Or.inr ⟨rfl, (Option.some.inj h).symm⟩)
      all_goals cases h
    · cases h
  · cases h
theorem a_rep {n j : Nat} {α : Type} {z : α} : (List.replicate n z).getD j z = z := by
  simp only [List.getD_eq_getElem?_getD, List.getElem?_replicate]
  split <;> rfl
theorem a_cA {t : Nat} {ty : FieldType} {q : ClassId} (h : (a_ty cA)[t]? = some (cA t, ty)) (hobj : ∀ C9, ty ≠ .object C9) (hK : va_K D vwCl (a_ty cA) s) (hK1 : va_K D vwCl (a_ty cA ++ [(q, ty)]) s) : q = cA t := by
  have h1 := (hK.2 t _ h).2
  have h2 := (hK1.2 (a_ty cA).length (q, ty) (by simp)).2
  unfold va_RA at h1 h2
  cases ty with
  | object C9 => exact absurd rfl (hobj C9)
  | _ => exact Option.some.inj (h2.symm.trans h1)
theorem a_nn {n : Int32} (h : 0 ≤ n) : ¬ n < 0 := fun q => absurd h (Int32.not_le.mpr q)
theorem s_newarray (hX : a_X adK adV b sc D cA A p l R s m args meth c d k) (hI : a_I D cA adK b A s H locs θ w) (hF : a_F θ w (mX k) sl ls st) {ty : ArrayType} (hd : mLk k pc = some (.newarray ty, len)) (h0 : ins sc d k pc ls st w (.newarray ty) = some N) (hr : nc + N.2.2.2.2.1 ≤ R.cells ∧ ns + N.2.2.2.2.2 ≤ R.slots) (K : a_Go adK b D cA A p l e R s m args below meth c Q k θ w nc ns N) : W p l e R s m args below meth c H locs nc ns Q (F0 m pc sl (st.map (a_V θ))) := by
  obtain ⟨⟨hx, hb, hml, hown, hts⟩, -⟩ := id hX
  obtain ⟨n, r, rfl, hn, hn2, hwl, hc⟩ := nwa_inl h0
  have goes : ∀ (x : AE) (q : Nat) (H1 : Heap), (∀ (c : Nat) (fs : List Value), x = .inr (c, fs) → ∀ v ∈ fs, a_rk w.length v) → N = (pc + 2, ls, .ref w.length :: r, w ++ [x], 1, n.toNatClampNeg) → va_P D vwCl (a_C cA θ w ++ [(q, a_E cA θ x)]) H1 → va_D A (a_C cA θ w ++ [(q, a_E cA θ x)]) → va_S A s.heap H1 locs → W p l e R s m args below meth c H1 locs (nc + 1) (ns + n.toNatClampNeg) Q (F0 m (pc + 2) sl (.ref q :: r.map (a_V θ))) := by
    intro x q H1 hx9 eN hP hD hS
    subst eN
    obtain ⟨hex, hI1⟩ := hI.push hwl hx9 hP hD hS
    have K1 := K (va_up θ w.length q) H1 locs sl hex hI1 ((hF.ex hex (by simp)).st (a_kc (a_rk_ref (Or.inl (by simp))) (fun u hu => a_rk_mono (a_tl hF.2.2 u hu) (by simp))))
    have e2 : (Value.ref w.length :: r).map (a_V (va_up θ w.length q)) = .ref q :: r.map (a_V θ) := by
      rw [List.map_cons, a_Vs_ex hex (a_tl hF.2.2)]
      show Value.ref (va_up θ w.length q w.length) :: _ = _
      rw [va_up_self]
    rw [e2] at K1
    exact K1
  have hN1 : N.2.2.2.2.1 = 1 ∧ N.2.2.2.2.2 = n.toNatClampNeg := by
    rcases hc with ⟨-, rfl⟩ | ⟨-, rfl⟩ | ⟨-, rfl⟩ <;> exact ⟨rfl, rfl⟩
  rw [hN1.1, hN1.2] at hr
  rcases hc with ⟨rfl, eN⟩ | ⟨rfl, eN⟩ | ⟨rfl, eN⟩
  · refine va_newa (atype := .int) (ty := .int) (a0 := (n.toNatClampNeg, .inl (fun _ => 0))) hx hb (hts _ (a_inB _ (by simp [AWB, newarray.typeOf]))) rfl hX.K hI.1 hI.2.1 hI.2.2.1 hX.aA (fun _ => rfl) (a_nn hn) rfl (by simp only [componentBytes]; omega) hr.1 hr.2 (a_dec1 hX.kN hd rfl) (fun q cq H1 hK1 hP hD hS => ?_)
    have e0 : cq = cA 0 := a_cA (t := 0) rfl (fun _ q => by cases q) hX.K hK1
    have e1 : (q, (Sum.inl (cq, n.toNatClampNeg, .inl (fun _ => 0)) : va_E)) = (q, a_E cA θ (.inl (0, .inl (List.replicate n.toNatClampNeg 0)))) := by
      rw [e0]; simp only [a_E, List.length_replicate, a_rep]
    rw [e1] at hP hD
    exact goes _ q H1 (fun c9 fs9 q9 => by cases q9) eN hP hD hS
  · refine va_newa (atype := .byte) (ty := .byte) (a0 := (n.toNatClampNeg, .inl (fun _ => 0))) hx hb (hts _ (a_inB _ (by simp [AWB, newarray.typeOf]))) rfl hX.K hI.1 hI.2.1 hI.2.2.1 hX.aA (fun _ => rfl) (a_nn hn) rfl (by simp only [componentBytes]; omega) hr.1 hr.2 (a_dec1 hX.kN hd rfl) (fun q cq H1 hK1 hP hD hS => ?_)
    have e0 : cq = cA 1 := a_cA (t := 1) rfl (fun _ q => by cases q) hX.K hK1
    have e1 : (q, (Sum.inl (cq, n.toNatClampNeg, .inl (fun _ => 0)) : va_E)) = (q, a_E cA θ (.inl (1, .inl (List.replicate n.toNatClampNeg 0)))) := by
      rw [e0]; simp only [a_E, List.length_replicate, a_rep]
    rw [e1] at hP hD
    exact goes _ q H1 (fun c9 fs9 q9 => by cases q9) eN hP hD hS
  · refine va_newa (atype := .long) (ty := .long) (a0 := (n.toNatClampNeg, .inr (.inl (fun _ => 0)))) hx hb (hts _ (a_inB _ (by simp [AWB, newarray.typeOf]))) rfl hX.K hI.1 hI.2.1 hI.2.2.1 hX.aA (fun _ => rfl) (a_nn hn) rfl (by simp only [componentBytes]; omega) hr.1 hr.2 (a_dec1 hX.kN hd rfl) (fun q cq H1 hK1 hP hD hS => ?_)
    have e0 : cq = cA 2 := a_cA (t := 2) rfl (fun _ q => by cases q) hX.K hK1
    have e1 : (q, (Sum.inl (cq, n.toNatClampNeg, .inr (.inl (fun _ => 0))) : va_E)) = (q, a_E cA θ (.inl (2, .inr (List.replicate n.toNatClampNeg 0)))) := by
      rw [e0]; simp only [a_E, List.length_replicate, a_rep]
    rw [e1] at hP hD
    exact goes _ q H1 (fun c9 fs9 q9 => by cases q9) eN hP hD hS
end AHP
end
section
/-! ===== what the abstract machine takes whole: Math, arraycopy, a text's length and signs, Object's constructor ===== -/
theorem a_gd {ws : List Cond} (h : ∀ w ∈ ws, w ∈ ALLW) : GoodIn ALLW ws := fun w hw => ⟨h w hw, (g_ALLW w (h w hw)).2⟩
theorem a_cpl_eq {f g : List Int32} {sp dp n : Nat} (h4 : sp + n ≤ f.length) (h5 : dp + n ≤ g.length) : va_cpy (fun j => f.getD j 0) (fun j => g.getD j 0) sp dp n = fun j => (a_cpl f g sp dp n).getD j 0 := by
  funext j
  unfold va_cpy a_cpl
  have e1 : (g.take dp).length = dp := by rw [List.length_take]; omega
  have e2 : ((f.drop sp).take n).length = n := by rw [List.length_take, List.length_drop]; omega
  simp only [List.getD_eq_getElem?_getD]
  by_cases h1 : j < dp
  · rw [if_neg (by omega), List.getElem?_append_left (by omega), List.getElem?_take, if_pos h1]
  · rw [List.getElem?_append_right (by omega), e1]
    by_cases h2 : j < dp + n
    · rw [if_pos ⟨by omega, h2⟩, List.getElem?_append_left (by omega), List.getElem?_take, if_pos (by omega), List.getElem?_drop]
    · rw [if_neg (by omega), List.getElem?_append_right (by omega), e2, List.getElem?_drop, show dp + n + (j - dp - n) = j from by omega]
theorem a_cpl_len {f g : List Int32} {sp dp n : Nat} (h4 : sp + n ≤ f.length) (h5 : dp + n ≤ g.length) : (a_cpl f g sp dp n).length = g.length := by
  unfold a_cpl
  rw [List.length_append, List.length_append, List.length_take, List.length_take, List.length_drop, List.length_drop]
  omega
section AJD
variable {p : Program} {l : Launch} {e : Env} {R : Room} {s : State} {m : MethodId} {args : Array Value} {below : List Frame} {meth : Method} {c : Code} {H : Heap} {locs : List Loc} {Q : State → Prop}
variable {adK adV : Nat → Nat} {b : Nat} {sc : List Int32} {D : va_G} {cA : Nat → ClassId} {A : Nat → Prop} {θ : Nat → Nat} {w : AW} {ls : AL} {st : List Value} {sl : Array Slot} {d k pc len nc ns : Nat} {N : AN}
theorem mth_inl {f : Int32 → Int32 → Int32} (h : a_mth d f pc ls st w = some N) : ∃ (x y : Int32) (r : List Value), st = .int y :: .int x :: r ∧ (1 ≤ d ∧ a_cat r ≤ 8) ∧ N = (pc + 3, ls, .int (f x y) :: r, w, 0, 0) := by
  unfold a_mth at h
  split at h
  · split at h
    · rename_i h1
      exact ⟨_, _, _, rfl, h1, nx_inl h⟩
    · cases h
  · cases h
theorem abs_inl (h : a_abs d pc ls st w = some N) : ∃ (x : Int32) (r : List Value), st = .int x :: r ∧ (1 ≤ d ∧ a_cat r ≤ 8) ∧ N = (pc + 3, ls, .int (if 0 ≤ x then x else 0 - x) :: r, w, 0, 0) := by
  unfold a_abs at h
  split at h
  · split at h
    · rename_i h1
      exact ⟨_, _, rfl, h1, nx_inl h⟩
    · cases h
  · cases h
theorem obj_inl (h : a_obj d pc ls st w = some N) : ∃ (x : Nat) (r : List Value), st = .ref x :: r ∧ (1 ≤ d ∧ a_cat r ≤ 8) ∧ N = (pc + 3, ls, r, w, 0, 0) := by
  unfold a_obj at h
  split at h
  · split at h
    · rename_i h1
      exact ⟨_, _, rfl, h1, nx_inl h⟩
    · cases h
  · cases h
theorem cpy_inl (h : a_cpy d pc ls st w = some N) : ∃ (n dp sp : Int32) (a a0 : Nat) (r : List Value) (f g : List Int32), st = .int n :: .int dp :: .ref a :: .int sp :: .ref a0 :: r ∧ (1 ≤ d ∧ a_cat r ≤ 8) ∧ (0 ≤ n ∧ 0 ≤ dp ∧ 0 ≤ sp) ∧ w[a]? = some (.inl (0, .inl g)) ∧ w[a0]? = some (.inl (0, .inl f)) ∧ sp.toNatClampNeg + n.toNatClampNeg ≤ f.length ∧ dp.toNatClampNeg + n.toNatClampNeg ≤ g.length ∧
    N = (pc + 3, ls, r, w.set a (.inl (0, .inl (a_cpl f g sp.toNatClampNeg dp.toNatClampNeg n.toNatClampNeg))), 0, 0) := by
  unfold a_cpy at h
  split at h
  · split at h
    · rename_i h1
      split at h
      · rename_i u g u0 f hw hw0
        split at h
        · rename_i h2
          obtain ⟨⟨e1, e2⟩, e3, e4⟩ := h2
          subst e1
          subst e2
          exact ⟨_, _, _, _, _, _, f, g, rfl, h1.1, h1.2, hw, hw0, e3, e4, nx_inl h⟩
        · cases h
      · cases h
    · cases h
  · cases h
theorem sln_inl (h : a_sln d pc ls st w = some N) : ∃ (a : Nat) (r : List Value), st = .ref a :: r ∧ (6 ≤ d ∧ a_cat r ≤ 8) ∧ (a_SB ≤ a ∧ a - a_SB < sN) ∧ N = (pc + 3, ls, .int (Int32.ofNat (sB (a - a_SB)).length) :: r, w, 0, 0) := by
  unfold a_sln at h
  split at h
  · split at h
    · rename_i h1
      exact ⟨_, _, rfl, h1.1, h1.2, nx_inl h⟩
    · cases h
  · cases h
theorem sch_inl (h : a_sch d pc ls st w = some N) : ∃ (i x : Int32) (a : Nat) (r : List Value), st = .int i :: .ref a :: r ∧ (6 ≤ d ∧ a_cat r ≤ 8) ∧ (a_SB ≤ a ∧ a - a_SB < sN) ∧ 0 ≤ i ∧ (sB (a - a_SB))[i.toNatClampNeg]? = some x ∧ N = (pc + 3, ls, .int x :: r, w, 0, 0) := by
  unfold a_sch at h
  split at h
  · split at h
    · rename_i h1
      split at h
      · rename_i x hx
        exact ⟨_, x, _, _, rfl, h1.1, h1.2.1, h1.2.2, hx, nx_inl h⟩
      · cases h
    · cases h
  · cases h
theorem a_room (hX : a_X adK adV b sc D cA A p l R s m args meth c d k) {r : List Value} {z n : Nat} (h1 : z ≤ d) (h2 : a_cat r ≤ 8) (h3 : n ≤ 250) : z ≤ R.frames ∧ ((r.map (a_V θ)).map fun v => v.category).sum + n ≤ R.locals := by
  have h4 := hX.f
  have h5 := hX.lo
  have h6 := a_cat_V θ r
  unfold a_lo at h5
  unfold a_cat at h6 h2
  constructor
  · omega
  · rw [h6]; omega
theorem s_ispec (hX : a_X adK adV b sc D cA A p l R s m args meth c d k) (hI : a_I D cA adK b A s H locs θ w) (hF : a_F θ w (mX k) sl ls st) {x : Nat} (hd : mLk k pc = some (.invokespecial x, len)) (h0 : ins sc d k pc ls st w (.invokespecial x) = some N) (hr : nc + N.2.2.2.2.1 ≤ R.cells ∧ ns + N.2.2.2.2.2 ≤ R.slots) (K : a_Go adK b D cA A p l e R s m args below meth c Q k θ w nc ns N) : W p l e R s m args below meth c H locs nc ns Q (F0 m pc sl (st.map (a_V θ))) := by
  obtain ⟨⟨hx, hb, hml, hown, hts⟩, -⟩ := id hX
  have h1 : a_inp d k x pc ls st w = some N := h0
  unfold a_inp at h1
  split at h1
  · rename_i j hj
    obtain ⟨a, r, rfl, ⟨hd1, hr1⟩, rfl⟩ := obj_inl h1
    have hw : wM (mK k) (x, 2, j) ∈ ALLW := a_inM hX.kc (a_lk_mem hj) (fun z9 => nomatch z9)
    have q1 := a_room (θ := θ) hX hd1 hr1 (n := 12) (by decide)
    refine W.objInit hx hb hown (hts _ hw) (hts _ (a_inB _ (by simp [AWB]))) (hts _ (a_inB _ (by simp [AWB]))) rfl (by rw [hml]; exact hF.1.1) rfl (a_dec1 hX.kN hd rfl) q1.1 (by show 2 * 0 + _ + 12 ≤ _; omega) ?_
    exact K θ H locs sl a_ex_rf hI (hF.st (a_tl hF.2.2))
  · cases h1
set_option maxHeartbeats 1000000 in
theorem s_istat (hX : a_X adK adV b sc D cA A p l R s m args meth c d k) (hI : a_I D cA adK b A s H locs θ w) (hF : a_F θ w (mX k) sl ls st) {x : Nat} (hd : mLk k pc = some (.invokestatic x, len)) (h0 : ins sc d k pc ls st w (.invokestatic x) = some N) (hr : nc + N.2.2.2.2.1 ≤ R.cells ∧ ns + N.2.2.2.2.2 ≤ R.slots) (K : a_Go adK b D cA A p l e R s m args below meth c Q k θ w nc ns N) : W p l e R s m args below meth c H locs nc ns Q (F0 m pc sl (st.map (a_V θ))) := by
  obtain ⟨⟨hx, hb, hml, hown, hts⟩, -⟩ := id hX
  have h1 : a_ins d k x pc ls st w = some N := h0
  unfold a_ins at h1
  split at h1
  · rename_i j hj
    obtain ⟨u, v, r, rfl, ⟨hd1, hr1⟩, rfl⟩ := mth_inl h1
    have hw : wM (mK k) (x, 3, j) ∈ ALLW := a_inM hX.kc (a_lk_mem hj) (fun z9 => nomatch z9)
    have q1 := a_room (θ := θ) hX hd1 hr1 (n := 13) (by decide)
    exact va_mmax hx hb (by rw [hml]; exact hF.1.1.symm) hown (hts _ hw) (hts _ (a_inB _ (by simp [AWB]))) (hts _ (a_inB _ (by simp [AWB]))) (hts _ (a_inB _ (by simp [AWB]))) q1.1 q1.2 hr.1 hr.2 (a_dec1 hX.kN hd rfl) (K θ H locs sl a_ex_rf hI (hF.st (a_kc (a_rk_int _) (a_tl (a_tl hF.2.2)))))
  · rename_i j hj
    obtain ⟨u, v, r, rfl, ⟨hd1, hr1⟩, rfl⟩ := mth_inl h1
    have hw : wM (mK k) (x, 4, j) ∈ ALLW := a_inM hX.kc (a_lk_mem hj) (fun z9 => nomatch z9)
    have q1 := a_room (θ := θ) hX hd1 hr1 (n := 13) (by decide)
    exact va_mmin hx hb (by rw [hml]; exact hF.1.1.symm) hown (hts _ hw) (hts _ (a_inB _ (by simp [AWB]))) (hts _ (a_inB _ (by simp [AWB]))) (hts _ (a_inB _ (by simp [AWB]))) q1.1 q1.2 hr.1 hr.2 (a_dec1 hX.kN hd rfl) (K θ H locs sl a_ex_rf hI (hF.st (a_kc (a_rk_int _) (a_tl (a_tl hF.2.2)))))
  · rename_i j hj
    obtain ⟨u, r, rfl, ⟨hd1, hr1⟩, rfl⟩ := abs_inl h1
    have hw : wM (mK k) (x, 5, j) ∈ ALLW := a_inM hX.kc (a_lk_mem hj) (fun z9 => nomatch z9)
    have q1 := a_room (θ := θ) hX hd1 hr1 (n := 13) (by decide)
    exact va_mabs hx hb (by rw [hml]; exact hF.1.1.symm) hown (hts _ hw) (hts _ (a_inB _ (by simp [AWB]))) (hts _ (a_inB _ (by simp [AWB]))) (hts _ (a_inB _ (by simp [AWB]))) q1.1 q1.2 hr.1 hr.2 (a_dec1 hX.kN hd rfl) (K θ H locs sl a_ex_rf hI (hF.st (a_kc (a_rk_int _) (a_tl hF.2.2))))
  · rename_i j hj
    obtain ⟨n, dp, sp, a, a0, r, f, g, rfl, ⟨hd1, hr1⟩, ⟨hn, hdp, hsp⟩, hwa, hwa0, h4, h5, rfl⟩ := cpy_inl h1
    have hw : wM (mK k) (x, 6, j) ∈ ALLW := a_inM hX.kc (a_lk_mem hj) (fun z9 => nomatch z9)
    have q1 := a_room (θ := θ) hX hd1 hr1 (n := nativeFrameWords "java/lang/System" "arraycopy" 5 + 11) (by decide +kernel)
    refine va_copyi (ty := .int) hx hb (by rw [hml]; exact hF.1.1.symm) hown (hts _ hw) (hts _ (a_inB _ (by simp [AWB]))) (hts _ (a_inB _ (by simp [AWB]))) (hts _ (a_inB _ (by simp [AWB]))) hX.K hI.1 hI.2.1 hI.2.2.1 a0 a 0 0 (a_C_get hwa0) (a_C_get hwa) rfl rfl rfl (a_nn hsp) (a_nn hdp) (a_nn hn) h4 h5 (fun i _ => rfl) q1.1 q1.2 (a_dec1 hX.kN hd rfl) (fun H1 locs1 hP hD hS => ?_)
    rw [a_cpl_eq h4 h5] at hP hD
    have e1 : (θ a, (Sum.inl (cA 0, g.length, .inl (fun j => (a_cpl f g sp.toNatClampNeg dp.toNatClampNeg n.toNatClampNeg).getD j 0)) : va_E)) = (θ a, a_E cA θ (.inl (0, .inl (a_cpl f g sp.toNatClampNeg dp.toNatClampNeg n.toNatClampNeg)))) := by simp [a_E, a_cpl_len h4 h5]
    rw [e1] at hP hD
    exact K θ H1 locs1 sl a_ex_rf (hI.set (fun c9 fs9 q9 => by cases q9) hP hD hS) (hF.set (a_tl (a_tl (a_tl (a_tl (a_tl hF.2.2))))))
  · cases h1
/-- behind a call that left the world as it was -/
theorem a_I.still {H1 : Heap} {locs1 : List Loc} (hI : a_I D cA adK b A s H locs θ w) (hk : ∀ q : Nat, q < H.size → ¬ st_0 q → H1[q]? = H[q]?) (hS : va_S A s.heap H1 locs1) : a_I D cA adK b A s H1 locs1 θ w :=
  ⟨hI.1.kept (fun i q hq => hk q.1 ((hI.1 i q hq).lt) (fun h => h)), hI.2.1, hS, hI.2.2.2⟩
theorem sB_ok : ((List.range sN).all fun i => decide ((sB i).length < 2 ^ 31) && (sB i).all fun x => decide (x &&& 255 = x)) = true := by decide +kernel
theorem a_sB {i : Nat} (h : i < sN) : (sB i).length < 2 ^ 31 ∧ ∀ x ∈ sB i, x &&& 255 = x := by
  have h1 := List.all_eq_true.mp sB_ok i (List.mem_range.mpr h)
  simp only [Bool.and_eq_true, decide_eq_true_eq, List.all_eq_true] at h1
  exact h1
set_option maxHeartbeats 2000000 in
theorem s_ivirt (hX : a_X adK adV b sc D cA A p l R s m args meth c d k) (hI : a_I D cA adK b A s H locs θ w) (hF : a_F θ w (mX k) sl ls st) {x : Nat} (hd : mLk k pc = some (.invokevirtual x, len)) (h0 : ins sc d k pc ls st w (.invokevirtual x) = some N) (hr : nc + N.2.2.2.2.1 ≤ R.cells ∧ ns + N.2.2.2.2.2 ≤ R.slots) (K : a_Go adK b D cA A p l e R s m args below meth c Q k θ w nc ns N) : W p l e R s m args below meth c H locs nc ns Q (F0 m pc sl (st.map (a_V θ))) := by
  obtain ⟨hCF, -⟩ := id hX
  have h1 : a_inv d k x pc ls st w = some N := h0
  unfold a_inv at h1
  split at h1
  · rename_i j hj
    obtain ⟨a, r, rfl, ⟨hd1, hr1⟩, ⟨ha1, ha2⟩, rfl⟩ := sln_inl h1
    have hw : wM (mK k) (x, 7, j) ∈ ALLW := a_inM hX.kc (a_lk_mem hj) (fun z9 => nomatch z9)
    have hG : GoodIn ALLW (wsV (RN (mK k)) x RJ0 yJ0_length_8abf5 wsJ0_length_8abf5) := a_gd (fun z hz => by
      rcases List.mem_append.mp hz with h | h
      · rcases List.mem_cons.mp h with rfl | h
        · exact hw
        · exact a_inJ _ (List.mem_append_left _ (by
            simp only [List.mem_cons, List.not_mem_nil, or_false] at h ⊢
            rcases h with rfl | rfl | rfl <;> simp))
      · exact a_inJ _ (List.mem_append_right _ (List.mem_append_left _ h)))
    have e1 : θ a = adK (a - a_SB) := by
      have := hI.2.2.2.2.2.2 (a - a_SB) ha2
      rwa [show a_SB + (a - a_SB) = a from by omega] at this
    have q1 := a_room (θ := θ) hX hd1 hr1 (n := 50) (by decide)
    have hE := hX.E
    obtain ⟨hS1, hS2⟩ := hE.1 _ ha2
    have K0 := K
    show W p l e R s m args below meth c H locs nc ns Q (F0 m pc sl (.ref (θ a) :: r.map (a_V θ)))
    rw [e1]
    refine va_calli (va_runV (As := []) (rest := r.map (a_V θ)) hCF (c_slen l (adK (a - a_SB)) (adV (a - a_SB)) (sB (a - a_SB)).length (sB (a - a_SB)) A) (cwV 0 hCF.2.2.2.2 hG rfl rfl rfl (by decide +kernel) ⟨by have := q1.1; show 1 + 1 ≤ _; omega, by have := q1.2; show 8 + (1 + 11) + 24 ≤ _; omega⟩)
      ⟨st_blind fun U g mk a h => st_P.go rfl (State.WarmedH.refl U) h, vk_recv (i := 0) hS2 (by decide) hI.2.2.1, fun U hU hW => ⟨rfl, by
        unfold st_P
        rw [hU]
        exact ⟨(vk_S.moved hW.alike hS2).kept (fun q9 g1 g2 => hI.2.2.1.2.1 q9 g1 g2), (va_Z.moved hW.alike hE.2.2.2.1).kept (fun q9 g1 g2 => hI.2.2.1.2.1 q9 g1 g2), (va_Zq.moved hW.alike hE.2.2.2.2.1).kept (fun q9 g1 g2 => hI.2.2.1.2.1 q9 g1 g2)⟩⟩⟩ rfl rfl hF.1.1 rfl (by have := a_cat_V θ r; unfold a_cat at this hr1; show 2 * 0 + _ ≤ 8; omega) (a_dec1 hX.kN hd rfl) ⟨hr.1, hr.2⟩) hI.2.2.1 (fun _ _ h => h.elim) (fun _ h => h.elim)
      (fun r0 u t H1 locs1 ht hvm hw9 hB hz1 hk1 hS9 => ?_)
    have K1 := K0 θ H1 locs1 sl a_ex_rf (hI.still hk1 hS9) (hF.st (a_kc (a_rk_int _) (a_tl hF.2.2)))
    rw [hw9]
    exact K1
  · rename_i j hj
    obtain ⟨i, y, a, r, rfl, ⟨hd1, hr1⟩, ⟨ha1, ha2⟩, hi, hy, rfl⟩ := sch_inl h1
    have hw : wM (mK k) (x, 8, j) ∈ ALLW := a_inM hX.kc (a_lk_mem hj) (fun z9 => nomatch z9)
    have hG : GoodIn ALLW (wsV (RN (mK k)) x RJ0 yJ0_charAt_5068e wsJ0_charAt_5068e) := a_gd (fun z hz => by
      rcases List.mem_append.mp hz with h | h
      · rcases List.mem_cons.mp h with rfl | h
        · exact hw
        · exact a_inJ _ (List.mem_append_left _ (by
            simp only [List.mem_cons, List.not_mem_nil, or_false] at h ⊢
            rcases h with rfl | rfl | rfl <;> simp))
      · exact a_inJ _ (List.mem_append_right _ (List.mem_append_right _ h)))
    have e1 : θ a = adK (a - a_SB) := by
      have := hI.2.2.2.2.2.2 (a - a_SB) ha2
      rwa [show a_SB + (a - a_SB) = a from by omega] at this
    have q1 := a_room (θ := θ) hX hd1 hr1 (n := 100) (by decide)
    have hE := hX.E
    obtain ⟨hS1, hS2⟩ := hE.1 _ ha2
    have K0 := K
    show W p l e R s m args below meth c H locs nc ns Q (F0 m pc sl (.int i :: .ref (θ a) :: r.map (a_V θ)))
    rw [e1]
    refine va_calli (va_runV (As := [.int i]) (rest := r.map (a_V θ)) hCF (c_sch l (adK (a - a_SB)) (adV (a - a_SB)) (sB (a - a_SB)).length (sB (a - a_SB)) A i (a_in hi (a_lt hy)) (a_sB ha2).1) (cwV 1 hCF.2.2.2.2 hG rfl rfl rfl (by decide +kernel) ⟨by have := q1.1; show 3 + 1 ≤ _; omega, by have := q1.2; show 8 + (2 + 11) + 72 ≤ _; omega⟩)
      ⟨st_blind fun U g mk a h => st_P.go rfl (State.WarmedH.refl U) h, vk_recv (i := 0) hS2 (by decide) hI.2.2.1, fun U hU hW => ⟨rfl, by
        unfold st_P
        rw [hU]
        exact ⟨(vk_S.moved hW.alike hS2).kept (fun q9 g1 g2 => hI.2.2.1.2.1 q9 g1 g2), (va_Z.moved hW.alike hE.2.2.2.1).kept (fun q9 g1 g2 => hI.2.2.1.2.1 q9 g1 g2), (va_Zq.moved hW.alike hE.2.2.2.2.1).kept (fun q9 g1 g2 => hI.2.2.1.2.1 q9 g1 g2)⟩⟩⟩ rfl rfl hF.1.1 rfl (by have := a_cat_V θ r; unfold a_cat at this hr1; show 2 * 0 + _ ≤ 8; omega) (a_dec1 hX.kN hd rfl) ⟨hr.1, hr.2⟩) hI.2.2.1 (fun _ _ h => h.elim) (fun _ h => h.elim)
      (fun r0 u t H1 locs1 ht hvm hw9 hB hz1 hk1 hS9 => ?_)
    have K1 := K0 θ H1 locs1 sl a_ex_rf (hI.still hk1 hS9) (hF.st (a_kc (a_rk_int _) (a_tl (a_tl hF.2.2))))
    rw [hw9, a_gD hy, (a_sB ha2).2 y (List.mem_of_getElem? hy)]
    exact K1
  · cases h1
end AJD
end
section
/-! ===== the abstract machine's runs are runs of the real one ===== -/
section AMN
variable {p : Program} {l : Launch} {e : Env} {R : Room} {s : State} {m : MethodId} {args : Array Value} {below : List Frame} {meth : Method} {c : Code} {H : Heap} {locs : List Loc} {Q : State → Prop}
variable {adK adV : Nat → Nat} {b : Nat} {sc : List Int32} {D : va_G} {cA : Nat → ClassId} {A : Nat → Prop} {θ : Nat → Nat} {w : AW} {ls : AL} {st : List Value} {sl : Array Slot} {d k pc len nc ns : Nat} {N : AN}
set_option maxHeartbeats 4000000 in
theorem ins_len {i : Instr} (h : ins sc d k pc ls st w i = some N) : w.length ≤ N.2.2.2.1.length := by
  have nx : ∀ {pc : Nat} {ls : AL} {st : List Value}, a_nx pc ls st w = some N → w.length ≤ N.2.2.2.1.length := fun h => by rw [nx_inl h]; exact Nat.le_refl _
  have to_ : ∀ {pc : Nat} {off : Int} {ls : AL} {st : List Value}, a_to pc off ls st w = some N → w.length ≤ N.2.2.2.1.length := fun h => by
    obtain ⟨t, -, rfl⟩ := to_inl h; exact Nat.le_refl _
  have jm : ∀ {q : Prop} [Decidable q] {pc : Nat} {off : Int} {ls : AL} {st : List Value}, a_jmp q pc off ls st w = some N → w.length ≤ N.2.2.2.1.length := fun h => by
    obtain ⟨t, -, ⟨-, rfl⟩ | ⟨-, rfl⟩⟩ := jmp_inl h <;> exact Nat.le_refl _
  cases i with
  | iconst n => exact nx h
  | bipush n => exact nx h
  | sipush n => exact nx h
  | lconst n => exact nx h
  | ldc x => rcases ldc_inl (show a_ldc (mK k) x (pc + 2) ls st w = some N from h) with ⟨_, _, rfl⟩ | ⟨_, _, _, rfl⟩ <;> exact Nat.le_refl _
  | ldc_w x => rcases ldc_inl (show a_ldc (mK k) x (pc + 3) ls st w = some N from h) with ⟨_, _, rfl⟩ | ⟨_, _, _, rfl⟩ <;> exact Nat.le_refl _
  | ldc2_w x => obtain ⟨_, _, rfl⟩ := ldc2_inl (show a_ldc2 (mK k) x (pc + 3) ls st w = some N from h); exact Nat.le_refl _
  | iload i => obtain ⟨_, _, rfl⟩ := ldI_inl (show a_ldI (a_lk ls i) (pc + 2) ls st w = some N from h); exact Nat.le_refl _
  | iload_n i => obtain ⟨_, _, rfl⟩ := ldI_inl (show a_ldI (a_lk ls i) (pc + 1) ls st w = some N from h); exact Nat.le_refl _
  | lload i => obtain ⟨_, _, rfl⟩ := ldL_inl (show a_ldL (a_lk ls i) (pc + 2) ls st w = some N from h); exact Nat.le_refl _
  | lload_n i => obtain ⟨_, _, rfl⟩ := ldL_inl (show a_ldL (a_lk ls i) (pc + 1) ls st w = some N from h); exact Nat.le_refl _
  | aload i => obtain ⟨_, _, rfl⟩ := ldA_inl (show a_ldA (a_lk ls i) (pc + 2) ls st w = some N from h); exact Nat.le_refl _
  | aload_n i => obtain ⟨_, _, rfl⟩ := ldA_inl (show a_ldA (a_lk ls i) (pc + 1) ls st w = some N from h); exact Nat.le_refl _
  | istore i => obtain ⟨_, _, _, _, rfl⟩ := stI_inl (show a_stI (mX k) i (pc + 2) ls st w = some N from h); exact Nat.le_refl _
  | istore_n i => obtain ⟨_, _, _, _, rfl⟩ := stI_inl (show a_stI (mX k) i (pc + 1) ls st w = some N from h); exact Nat.le_refl _
  | lstore i => obtain ⟨_, _, _, _, rfl⟩ := stL_inl (show a_stL (mX k) i (pc + 2) ls st w = some N from h); exact Nat.le_refl _
  | lstore_n i => obtain ⟨_, _, _, _, rfl⟩ := stL_inl (show a_stL (mX k) i (pc + 1) ls st w = some N from h); exact Nat.le_refl _
  | astore i => obtain ⟨_, _, _, _, rfl⟩ := stA_inl (show a_stA (mX k) i (pc + 2) ls st w = some N from h); exact Nat.le_refl _
  | astore_n i => obtain ⟨_, _, _, _, rfl⟩ := stA_inl (show a_stA (mX k) i (pc + 1) ls st w = some N from h); exact Nat.le_refl _
  | iinc i z => obtain ⟨_, _, _, rfl⟩ := inc_inl (show a_inc (mX k) i z pc ls st w = some N from h); exact Nat.le_refl _
  | iadd => obtain ⟨_, _, _, _, rfl⟩ := i2_inl (show a_i2 _ pc ls st w = some N from h); exact Nat.le_refl _
  | isub => obtain ⟨_, _, _, _, rfl⟩ := i2_inl (show a_i2 _ pc ls st w = some N from h); exact Nat.le_refl _
  | imul => obtain ⟨_, _, _, _, rfl⟩ := i2_inl (show a_i2 _ pc ls st w = some N from h); exact Nat.le_refl _
  | iand => obtain ⟨_, _, _, _, rfl⟩ := i2_inl (show a_i2 _ pc ls st w = some N from h); exact Nat.le_refl _
  | ior => obtain ⟨_, _, _, _, rfl⟩ := i2_inl (show a_i2 _ pc ls st w = some N from h); exact Nat.le_refl _
  | ixor => obtain ⟨_, _, _, _, rfl⟩ := i2_inl (show a_i2 _ pc ls st w = some N from h); exact Nat.le_refl _
  | ishl => obtain ⟨_, _, _, _, rfl⟩ := i2_inl (show a_i2 _ pc ls st w = some N from h); exact Nat.le_refl _
  | ishr => obtain ⟨_, _, _, _, rfl⟩ := i2_inl (show a_i2 _ pc ls st w = some N from h); exact Nat.le_refl _
  | iushr => obtain ⟨_, _, _, _, rfl⟩ := i2_inl (show a_i2 _ pc ls st w = some N from h); exact Nat.le_refl _
  | idiv => obtain ⟨_, _, _, _, _, rfl⟩ := i2z_inl (show a_i2z _ pc ls st w = some N from h); exact Nat.le_refl _
  | irem => obtain ⟨_, _, _, _, _, rfl⟩ := i2z_inl (show a_i2z _ pc ls st w = some N from h); exact Nat.le_refl _
  | ineg => obtain ⟨_, _, _, rfl⟩ := i1_inl (show a_i1 _ pc ls st w = some N from h); exact Nat.le_refl _
  | i2b => obtain ⟨_, _, _, rfl⟩ := i1_inl (show a_i1 _ pc ls st w = some N from h); exact Nat.le_refl _
  | i2l => obtain ⟨_, _, _, rfl⟩ := i2l_inl (show a_i2l pc ls st w = some N from h); exact Nat.le_refl _
  | ladd => obtain ⟨_, _, _, _, rfl⟩ := l2_inl (show a_l2 _ pc ls st w = some N from h); exact Nat.le_refl _
  | lmul => obtain ⟨_, _, _, _, rfl⟩ := l2_inl (show a_l2 _ pc ls st w = some N from h); exact Nat.le_refl _
  | ldiv => obtain ⟨_, _, _, _, _, rfl⟩ := l2z_inl (show a_l2z _ pc ls st w = some N from h); exact Nat.le_refl _
  | lrem => obtain ⟨_, _, _, _, _, rfl⟩ := l2z_inl (show a_l2z _ pc ls st w = some N from h); exact Nat.le_refl _
  | lcmp => obtain ⟨_, _, _, _, rfl⟩ := lcmp_inl (show a_lcmp pc ls st w = some N from h); exact Nat.le_refl _
  | dup => obtain ⟨_, _, _, _, rfl⟩ := dup_inl (show a_dup pc ls st w = some N from h); exact Nat.le_refl _
  | pop => obtain ⟨_, _, _, _, rfl⟩ := pop_inl (show a_pop pc ls st w = some N from h); exact Nat.le_refl _
  | dup2 => obtain ⟨_, _, _, _, _, rfl⟩ := dup2_inl (show a_dup2 pc ls st w = some N from h); exact Nat.le_refl _
  | goto off => exact to_ h
  | ifCond q off => cases q <;> (obtain ⟨_, _, rfl, h1⟩ := m1_inl (f := fun x r => _) h; exact jm h1)
  | if_icmp q off => cases q <;> (obtain ⟨_, _, _, rfl, h1⟩ := m2_inl (f := fun x y r => _) h; exact jm h1)
  | tableswitch dflt lo hi offs => obtain ⟨_, _, rfl, ⟨_, h1⟩ | ⟨_, _, _, h1⟩⟩ := tsw_inl (show a_tsw dflt lo hi offs pc ls st w = some N from h) <;> exact to_ h1
  | lookupswitch dflt ps => obtain ⟨_, _, rfl, _, h1⟩ := lsw_inl (show a_lsw dflt ps pc ls st w = some N from h); exact to_ h1
  | getfield x => obtain ⟨_, _, _, _, _, _, _, _, _, _, rfl⟩ := get_inl (show a_get (mK k) x pc ls st w = some N from h); exact Nat.le_refl _
  | putfield x => obtain ⟨_, _, _, _, _, _, _, _, _, _, _, _, rfl⟩ := put_inl (show a_put k x pc ls st w = some N from h); simp
  | iaload => obtain ⟨_, _, _, _, _, _, rfl, _⟩ := ild_inl (show a_ild 0 sc pc ls st w = some N from h); exact Nat.le_refl _
  | baload => obtain ⟨_, _, _, _, _, _, rfl, _⟩ := ild_inl (show a_ild 1 sc pc ls st w = some N from h); exact Nat.le_refl _
  | laload => obtain ⟨_, _, _, _, _, _, _, rfl, _⟩ := lld_inl (show a_lld pc ls st w = some N from h); exact Nat.le_refl _
  | iastore => obtain ⟨_, _, _, _, _, _, _, _, _, rfl⟩ := ist_inl (show a_ist pc ls st w = some N from h); simp
  | bastore => obtain ⟨_, _, _, _, _, _, _, _, _, rfl⟩ := bst_inl (show a_bst pc ls st w = some N from h); simp
  | lastore => obtain ⟨_, _, _, _, _, _, _, _, _, rfl⟩ := lst_inl (show a_lst pc ls st w = some N from h); simp
  | arraylength => obtain ⟨_, _, _, ⟨_, rfl⟩ | ⟨_, _, _, _, rfl⟩ | ⟨_, _, rfl⟩⟩ := aln_inl (show a_aln sc pc ls st w = some N from h) <;> exact Nat.le_refl _
  | new x => obtain ⟨_, _, _, _, rfl⟩ := new_inl (show a_new k x pc ls st w = some N from h); simp
  | newarray ty => obtain ⟨_, _, _, _, _, _, ⟨_, rfl⟩ | ⟨_, rfl⟩ | ⟨_, rfl⟩⟩ := nwa_inl (show a_nwa ty pc ls st w = some N from h) <;> simp
  | invokevirtual x =>
    have h1 : a_inv d k x pc ls st w = some N := h
    unfold a_inv at h1
    split at h1
    · obtain ⟨_, _, _, _, _, rfl⟩ := sln_inl h1; exact Nat.le_refl _
    · obtain ⟨_, _, _, _, _, _, _, _, _, rfl⟩ := sch_inl h1; exact Nat.le_refl _
    · cases h1
  | invokestatic x =>
    have h1 : a_ins d k x pc ls st w = some N := h
    unfold a_ins at h1
    split at h1
    · obtain ⟨_, _, _, _, _, rfl⟩ := mth_inl h1; exact Nat.le_refl _
    · obtain ⟨_, _, _, _, _, rfl⟩ := mth_inl h1; exact Nat.le_refl _
    · obtain ⟨_, _, _, _, rfl⟩ := abs_inl h1; exact Nat.le_refl _
    · obtain ⟨_, _, _, _, _, _, _, _, _, _, _, _, _, _, _, rfl⟩ := cpy_inl h1; simp
    · cases h1
  | invokespecial x =>
    have h1 : a_inp d k x pc ls st w = some N := h
    unfold a_inp at h1
    split at h1
    · obtain ⟨_, _, _, _, rfl⟩ := obj_inl h1; exact Nat.le_refl _
    · cases h1
  | _ => cases h
theorem s_all {i : Instr} (hX : a_X adK adV b sc D cA A p l R s m args meth c d k) (hI : a_I D cA adK b A s H locs θ w) (hF : a_F θ w (mX k) sl ls st) (hd : mLk k pc = some (i, len)) (h0 : ins sc d k pc ls st w i = some N) (hr : nc + N.2.2.2.2.1 ≤ R.cells ∧ ns + N.2.2.2.2.2 ≤ R.slots) (K : a_Go adK b D cA A p l e R s m args below meth c Q k θ w nc ns N) : W p l e R s m args below meth c H locs nc ns Q (F0 m pc sl (st.map (a_V θ))) := by
  cases i with
  | iconst n => exact s_iconst hX hI hF hd h0 hr K
  | bipush n => exact s_bipush hX hI hF hd h0 hr K
  | sipush n => exact s_sipush hX hI hF hd h0 hr K
  | lconst n => exact s_lconst hX hI hF hd h0 hr K
  | ldc x => exact s_ldc hX hI hF hd h0 hr K
  | ldc_w x => exact s_ldcw hX hI hF hd h0 hr K
  | ldc2_w x => exact s_ldc2 hX hI hF hd h0 hr K
  | iload i => exact s_iload hX hI hF hd h0 hr K
  | iload_n i => exact s_iloadn hX hI hF hd h0 hr K
  | lload i => exact s_lload hX hI hF hd h0 hr K
  | lload_n i => exact s_lloadn hX hI hF hd h0 hr K
  | aload i => exact s_aload hX hI hF hd h0 hr K
  | aload_n i => exact s_aloadn hX hI hF hd h0 hr K
  | istore i => exact s_istore hX hI hF hd h0 hr K
  | istore_n i => exact s_istoren hX hI hF hd h0 hr K
  | lstore i => exact s_lstore hX hI hF hd h0 hr K
  | lstore_n i => exact s_lstoren hX hI hF hd h0 hr K
  | astore i => exact s_astore hX hI hF hd h0 hr K
  | astore_n i => exact s_astoren hX hI hF hd h0 hr K
  | iinc i z => exact s_iinc hX hI hF hd h0 hr K
  | iadd => exact s_iadd hX hI hF hd h0 hr K
  | isub => exact s_isub hX hI hF hd h0 hr K
  | imul => exact s_imul hX hI hF hd h0 hr K
  | iand => exact s_iand hX hI hF hd h0 hr K
  | ior => exact s_ior hX hI hF hd h0 hr K
  | ixor => exact s_ixor hX hI hF hd h0 hr K
  | ishl => exact s_ishl hX hI hF hd h0 hr K
  | ishr => exact s_ishr hX hI hF hd h0 hr K
  | iushr => exact s_iushr hX hI hF hd h0 hr K
  | idiv => exact s_idiv hX hI hF hd h0 hr K
  | irem => exact s_irem hX hI hF hd h0 hr K
  | ineg => exact s_ineg hX hI hF hd h0 hr K
  | i2b => exact s_i2b hX hI hF hd h0 hr K
  | i2l => exact s_i2l hX hI hF hd h0 hr K
  | ladd => exact s_ladd hX hI hF hd h0 hr K
  | lmul => exact s_lmul hX hI hF hd h0 hr K
  | ldiv => exact s_ldiv hX hI hF hd h0 hr K
  | lrem => exact s_lrem hX hI hF hd h0 hr K
  | lcmp => exact s_lcmp hX hI hF hd h0 hr K
  | dup => exact s_dup hX hI hF hd h0 hr K
  | pop => exact s_pop hX hI hF hd h0 hr K
  | dup2 => exact s_dup2 hX hI hF hd h0 hr K
  | goto off => exact s_goto hX hI hF hd h0 hr K
  | ifCond q off =>
    cases q with
    | eq => exact s_if_eq hX hI hF hd h0 hr K
    | ne => exact s_if_ne hX hI hF hd h0 hr K
    | lt => exact s_if_lt hX hI hF hd h0 hr K
    | ge => exact s_if_ge hX hI hF hd h0 hr K
    | gt => exact s_if_gt hX hI hF hd h0 hr K
    | le => exact s_if_le hX hI hF hd h0 hr K
  | if_icmp q off =>
    cases q with
    | eq => exact s_ic_eq hX hI hF hd h0 hr K
    | ne => exact s_ic_ne hX hI hF hd h0 hr K
    | lt => exact s_ic_lt hX hI hF hd h0 hr K
    | ge => exact s_ic_ge hX hI hF hd h0 hr K
    | gt => exact s_ic_gt hX hI hF hd h0 hr K
    | le => exact s_ic_le hX hI hF hd h0 hr K
  | tableswitch dflt lo hi offs => exact s_tsw hX hI hF hd h0 hr K
  | lookupswitch dflt ps => exact s_lsw hX hI hF hd h0 hr K
  | getfield x => exact s_getfield hX hI hF hd h0 hr K
  | putfield x => exact s_putfield hX hI hF hd h0 hr K
  | iaload => exact s_iaload hX hI hF hd h0 hr K
  | baload => exact s_baload hX hI hF hd h0 hr K
  | laload => exact s_laload hX hI hF hd h0 hr K
  | iastore => exact s_iastore hX hI hF hd h0 hr K
  | bastore => exact s_bastore hX hI hF hd h0 hr K
  | lastore => exact s_lastore hX hI hF hd h0 hr K
  | arraylength => exact s_arraylength hX hI hF hd h0 hr K
  | new x => exact s_new hX hI hF hd h0 hr K
  | newarray ty => exact s_newarray hX hI hF hd h0 hr K
  | invokevirtual x => exact s_ivirt hX hI hF hd h0 hr K
  | invokestatic x => exact s_istat hX hI hF hd h0 hr K
  | invokespecial x => exact s_ispec hX hI hF hd h0 hr K
  | _ => cases h0
end AMN
end
section
/-! ===== calls, ends, and the whole ===== -/
theorem a_argsmap (θ : Nat → Nat) : ∀ (vs : List Value) (n : Nat), lv_args n (vs.map (a_V θ)) = (lv_args n vs).map fun q => (q.1, a_V θ q.2)
  | [], n => rfl
  | v :: vs, n => by
    show (n, a_V θ v) :: lv_args (if (a_V θ v).category = 2 then n + 2 else n + 1) (vs.map (a_V θ)) = (n, a_V θ v) :: (lv_args (if v.category = 2 then n + 2 else n + 1) vs).map fun q => (q.1, a_V θ q.2)
    rw [a_V_cat, a_argsmap θ vs]
theorem a_argsk {P : Value → Prop} : ∀ (vs : List Value) (n : Nat), (∀ v ∈ vs, P v) → ∀ q ∈ lv_args n vs, P q.2
  | [], n, _, q, hq => nomatch hq
  | v :: vs, n, h, q, hq => by
    rcases List.mem_cons.mp hq with rfl | hq
    · exact h v List.mem_cons_self
    · exact a_argsk vs _ (fun u hu => h u (List.mem_cons_of_mem _ hu)) q hq
theorem a_sl_len : ∀ vs : List Value, (lg_sl vs).length = a_cat vs
  | [] => rfl
  | v :: vs => by
    have h1 := a_sl_len vs
    unfold lg_sl a_cat at h1 ⊢
    rw [List.flatMap_cons, List.length_append, h1, List.map_cons, List.sum_cons]
    rcases lv_cat v with h | h <;> simp [h]
noncomputable def a_J (D : va_G) (cA : Nat → ClassId) (adK : Nat → Nat) (b : Nat) (A : Nat → Prop) (H : Heap) (θ : Nat → Nat) (w : AW) : Prop :=
  va_P D vwCl (a_C cA θ w) H ∧ va_D A (a_C cA θ w) ∧ a_wf w.length w ∧ w.length ≤ a_SC ∧ θ a_SC = b ∧ ∀ i : Nat, i < sN → θ (a_SB + i) = adK i
noncomputable def a_End (adK : Nat → Nat) (b : Nat) (D : va_G) (cA : Nat → ClassId) (A : Nat → Prop) (p : Program) (l : Launch) (e : Env) (R : Room) (s : State) (m : MethodId) (args : Array Value) (below : List Frame) (meth : Method) (c : Code) (Q : State → Prop) (k n0 : Nat) (θ0 : Nat → Nat) (res : AR) : Prop :=
  (∀ v : Option Value, res.1 = .inl v → ∀ (θ' : Nat → Nat) (H' : Heap) (locs' : List Loc) (sl' : Array Slot) (pc' : Nat) (i : Instr) (st' : List Value), mLk k pc' = some (i, 1) → a_ret k i st' = some (.inl v, 0, 0) → a_ex n0 θ0 θ' → a_I D cA adK b A s H' locs' θ' res.2.1 → W p l e R s m args below meth c H' locs' res.2.2.1 res.2.2.2 Q (F0 m pc' sl' (st'.map (a_V θ')))) ∧
  (∀ x : Nat, res.1 = .inr x → ∃ (Qc : Array Value → State → Outcome → State → Prop) (XC : String → State → State → Prop) (free : Addr → Prop), Q = vx_MQ below Qc XC args s res.2.2.1 res.2.2.2 free ∧ (∀ q, A q → free q) ∧
    ∀ (θ' : Nat → Nat) (H' : Heap) (locs' : List Loc) (t : State), a_ex n0 θ0 θ' → a_I D cA adK b A s H' locs' θ' res.2.1 → s.vm.Alike t.vm → H'.size ≤ t.heap.size → (∀ q : Nat, q < H'.size → t.heap[q]? = H'[q]?) → XC (xNm x) s t)
noncomputable def a_FS (sc : List Int32) (n : Nat) : Prop := ∀ (d k pc : Nat) (ls : AL) (st : List Value) (w : AW) (nc ns : Nat) (res : AR), ev sc n d k pc ls st w nc ns = some res → nc ≤ res.2.2.1 ∧ ns ≤ res.2.2.2 ∧ w.length ≤ res.2.1.length ∧
  ∀ (p : Program) (l : Launch) (e : Env) (R : Room) (s : State) (m : MethodId) (args : Array Value) (below : List Frame) (meth : Method) (c : Code) (H : Heap) (locs : List Loc) (Q : State → Prop) (adK adV : Nat → Nat) (b : Nat) (D : va_G) (cA : Nat → ClassId) (A : Nat → Prop) (θ : Nat → Nat) (sl : Array Slot) (n0 : Nat) (θ0 : Nat → Nat),
    a_X adK adV b sc D cA A p l R s m args meth c d k → a_I D cA adK b A s H locs θ w → a_F θ w (mX k) sl ls st → a_ex n0 θ0 θ → n0 ≤ w.length → res.2.2.1 ≤ R.cells → res.2.2.2 ≤ R.slots → a_End adK b D cA A p l e R s m args below meth c Q k n0 θ0 res →
    W p l e R s m args below meth c H locs nc ns Q (F0 m pc sl (st.map (a_V θ)))
noncomputable def mWs (j : Nat) : List Cond := mW j :: ALLW
noncomputable def mRm (d : Nat) (res : AR) : Room := { frames := d, cells := res.2.2.1, slots := res.2.2.2, locals := a_lo d }
noncomputable def a_mPc (D : va_G) (cA : Nat → ClassId) (adK adV : Nat → Nat) (b : Nat) (sc : List Int32) (θ : Nat → Nat) (w : AW) (ags : List Value) (sz : Nat) : Array Value → State → Prop :=
  va_Pc (ags.map (a_V θ)) (fun U => U.heap.size = sz ∧ va_P D vwCl (a_C cA θ w) U.heap ∧ va_K D vwCl (a_ty cA) U ∧ va_D (fun _ => True) (a_C cA θ w) ∧ a_Env adK adV b sc (va_A (a_C cA θ w) sz) U U.heap)
noncomputable def a_mQc (D : va_G) (cA : Nat → ClassId) (adK : Nat → Nat) (b : Nat) (θ : Nat → Nat) (w : AW) (sz : Nat) (res : AR) : Array Value → State → Outcome → State → Prop := fun _ st oc t =>
  (∃ (v : Option Value) (θ' : Nat → Nat), res.1 = .inl v ∧ a_ex w.length θ θ' ∧ oc = .returned v ∧ a_J D cA adK b (va_A (a_C cA θ w) sz) t.heap θ' res.2.1 ∧ ∀ u ∈ v.toList, ∀ n : Nat, a_rk n u ∧ ∀ θ2 : Nat → Nat, a_V θ2 u = u) ∧ va_F (va_A (a_C cA θ w) sz) st t
noncomputable def a_mXC (D : va_G) (cA : Nat → ClassId) (adK : Nat → Nat) (b : Nat) (θ : Nat → Nat) (w : AW) (sz : Nat) (res : AR) : String → State → State → Prop := fun E st t =>
  ∃ (x : Nat) (θ' : Nat → Nat), res.1 = .inr x ∧ E = xNm x ∧ a_ex w.length θ θ' ∧ a_J D cA adK b (va_A (a_C cA θ w) sz) t.heap θ' res.2.1 ∧ va_F (va_A (a_C cA θ w) sz) st t
theorem mW_n {j : Nat} (h : mH j = []) : mW j = .code (mY j) (mB j) (mX j) (mR j) := by unfold mW; rw [h]
theorem mW_h {j : Nat} {z : Nat × Nat × Nat × Nat} {zs : List (Nat × Nat × Nat × Nat)} (h : mH j = z :: zs) : mW j = .codeWith (mY j) (mB j) (mX j) (mR j) (mH j) := by unfold mW; rw [h]
theorem ret_inl {k : Nat} {i : Instr} {st : List Value} {v : Option Value} (h : a_ret k i st = some (.inl v, 0, 0)) : (∃ x : Int32, i = .ireturn ∧ st = [.int x] ∧ v = some (.int x) ∧ (mR k = some .int ∨ (mR k = some .boolean ∧ (x = 0 ∨ x = 1)))) ∨ (∃ x : Int64, i = .lreturn ∧ st = [.long x] ∧ v = some (.long x) ∧ mR k = some .long) ∨ (i = .return_ ∧ st = [] ∧ v = none ∧ mR k = none) := by
  unfold a_ret at h
  split at h
  · rename_i x hR
    cases h
    exact Or.inl ⟨x, rfl, rfl, rfl, Or.inl hR⟩
  · rename_i x hR
    split at h
    · rename_i h1
      cases h
      exact Or.inl ⟨x, rfl, rfl, rfl, Or.inr ⟨hR, h1⟩⟩
    · cases h
  · rename_i x hR
    cases h
    exact Or.inr (Or.inl ⟨x, rfl, rfl, rfl, hR⟩)
  · rename_i hR
    cases h
    exact Or.inr (Or.inr ⟨rfl, rfl, rfl, hR⟩)
  · cases h
theorem a_I.J {D : va_G} {cA : Nat → ClassId} {adK : Nat → Nat} {b : Nat} {A : Nat → Prop} {s : State} {H : Heap} {locs : List Loc} {θ : Nat → Nat} {w : AW} (h : a_I D cA adK b A s H locs θ w) : a_J D cA adK b A H θ w := ⟨h.1, h.2.1, h.2.2.2⟩
set_option maxHeartbeats 4000000 in
theorem a_met {sc : List Int32} {n d j : Nat} (IH : a_FS sc n) {ags : List Value} {w : AW} {res : AR} (h : ev sc n d j 0 (lv_args 0 ags) [] w 0 0 = some res) (hj : j + 1 < mN) (hcat : a_cat ags ≤ mX j) (hk : ∀ v ∈ ags, a_rk w.length v)
    {θ adK : Nat → Nat} {b : Nat} (hwf : a_wf w.length w) (hwl : w.length ≤ a_SC) (hbb : θ a_SC = b) (hss : ∀ i : Nat, i < sN → θ (a_SB + i) = adK i) (l : Launch) (hl : l.stackTraces = false) (D : va_G) (cA : Nat → ClassId) (adV : Nat → Nat) (sz : Nat) :
    vx_Met l (mY j) (mWs j) (mRm d res) (a_mPc D cA adK adV b sc θ w ags sz) (a_mQc D cA adK b θ w sz res) (a_mXC D cA adK b θ w sz res) res.2.2.1 res.2.2.2 (va_A (a_C cA θ w) sz) := by
  obtain ⟨f1, f2, f3, f4, f5, f6, f7, f8, f9⟩ := mPb_f (k := j) (by omega)
  have body : ∀ p e s m args below meth c s₁, BodyLoose p l (mY j) (headSpec (mWs j) (mRm d res)) (mB j) (mX j) (mR j) e s m args below meth c s₁ → c.maxLocals = mX j → c.exceptionTable.toList = tableOf (mH j) → a_mPc D cA adK adV b sc θ w ags sz args s →
      W p l e (headSpec (mWs j) (mRm d res)).room s m args below meth c s.heap [] 0 0 (vx_MQ below (a_mQc D cA adK b θ w sz res) (a_mXC D cA adK b θ w sz res) args s res.2.2.1 res.2.2.2 (va_A (a_C cA θ w) sz)) (entryFrame m args (mX j)) := by
    intro p e s m args below meth c s₁ B hml ht hv
    obtain ⟨rfl, hsz, hP, hK, hD0, hE⟩ := hv
    subst hsz
    have hts := atoms_spec (ws := mWs j) B.pre
    have hX : a_X adK adV b sc D cA (va_A (a_C cA θ w) s.heap.size) p l (headSpec (mWs j) (mRm d res)).room s m (ags.map (a_V θ)).toArray meth c d j :=
      ⟨⟨B.exec, B.bytes, hml, by rw [← f3]; exact findClass_of_methodNamed B.named, fun w hw => hts w (List.mem_cons_of_mem _ hw)⟩, B.notSynchronized, hl, fun h2 => ((name_of_methodNamed B.named B.method).1).trans (f8.mp h2), ht, hK, hE, fun q hq => Or.inr hq, Nat.le_refl _, Nat.le_refl _, by omega⟩
    rw [lg_entry_eq]
    have hl9 := lv_entry (ags.map (a_V θ)) (n := mX j) (by rw [a_sl_len, a_cat_V]; exact hcat)
    generalize (lg_sl (ags.map (a_V θ)) ++ List.replicate (mX j - (lg_sl (ags.map (a_V θ))).length) Slot.unset).toArray = sl at hl9 ⊢
    have hI : a_I D cA adK b (va_A (a_C cA θ w) s.heap.size) s s.heap [] θ w := ⟨hP, hD0.self, va_S.rf, hwf, hwl, hbb, hss⟩
    have hr := B.returns
    have hlocks := B.notSynchronized
    refine (IH d j 0 _ [] w 0 0 res h).2.2.2 p l e _ s m _ below meth c s.heap [] _ adK adV b D cA _ θ sl w.length θ hX hI ⟨by rw [← a_argsmap]; exact hl9, a_argsk ags 0 hk, fun _ q => nomatch q⟩ a_ex_rf (Nat.le_refl _) (Nat.le_refl _) (Nat.le_refl _) ⟨?_, ?_⟩
    · intro v hres θ' H' locs' sl' pc' i st' hlk hret hex hI'
      have hdg := a_dec (k := j) (by omega) hlk
      have J := hI'.J
      refine vx_ret ?_
      rcases ret_inl hret with ⟨x, rfl, rfl, rfl, hR | ⟨hR, hx01⟩⟩ | ⟨x, rfl, rfl, rfl, hR⟩ | ⟨rfl, rfl, rfl, hR⟩
      · exact W.iret (v := x) B.exec B.bytes (by rw [hr, hR]) (fun t ht2 _ => ⟨⟨_, θ', hres, hex, rfl, by rw [ht2]; exact J, fun u hu n => by simp at hu; subst hu; exact ⟨a_rk_int x, fun _ => rfl⟩⟩, hI'.2.2.1.F ht2⟩) hI'.2.2.1.2.2 hdg
      · exact W.zret (v := x) (ty := .boolean) B.exec B.bytes (by rw [hr, hR]) (by rcases hx01 with rfl | rfl <;> rfl) (fun t ht2 _ => ⟨⟨_, θ', hres, hex, rfl, by rw [ht2]; exact J, fun u hu n => by simp at hu; subst hu; exact ⟨a_rk_int x, fun _ => rfl⟩⟩, hI'.2.2.1.F ht2⟩) hI'.2.2.1.2.2 hdg
      · exact W.lret (v := x) B.exec B.bytes (by rw [hr, hR]) (fun t ht2 _ => ⟨⟨_, θ', hres, hex, rfl, by rw [ht2]; exact J, fun u hu n => by simp at hu; subst hu; exact ⟨a_rk_long x, fun _ => rfl⟩⟩, hI'.2.2.1.F ht2⟩) hI'.2.2.1.2.2 hdg
      · exact W.vret B.exec B.bytes (by rw [hr, hR]) (fun t ht2 _ => ⟨⟨_, θ', hres, hex, rfl, by rw [ht2]; exact J, fun u hu n => by simp at hu⟩, hI'.2.2.1.F ht2⟩) hI'.2.2.1.2.2 hdg
    · intro x hres
      refine ⟨_, _, _, rfl, fun q hq => hq, fun θ' H' locs' t hex hI' _ hz hq => ⟨x, θ', hres, rfl, hex, ?_, ?_⟩⟩
      · exact ⟨hI'.1.kept (fun i q9 h9 => hq q9.1 ((hI'.1 i q9 h9).lt)), hI'.2.1, hI'.2.2.2⟩
      · exact ⟨Nat.le_trans hI'.2.2.1.1 hz, fun q g1 g2 => (hq q (Nat.lt_of_lt_of_le g1 hI'.2.2.1.1)).trans (hI'.2.2.1.2.1 q g1 g2)⟩
  cases hH : mH j with
  | nil =>
    refine vx_ofW (cc := mB j) (maxL := mX j) (ret := mR j) f2 (by unfold mWs; rw [mW_n hH]) (fun p e s m args below meth c s₁ B hml ht hv => body p e s m args below meth c s₁ B hml ?_ hv)
    rw [hH]
    exact List.eq_nil_iff_forall_not_mem.mpr (fun x hx => ht x hx)
  | cons z zs =>
    refine vx_ofWH (cc := mB j) (maxL := mX j) (ret := mR j) (hh := mH j) f2 (by unfold mWs; rw [mW_h hH]) (fun p e s m args below meth c s₁ B hml hv => body p e s m args below meth c s₁ B hml ?_ hv)
    exact vx_table (x := mY j) B (atoms_spec (ws := mWs j) B.pre _ (by unfold mWs; rw [mW_h hH]; exact List.mem_cons_self))
theorem a_mBlind {D : va_G} {cA : Nat → ClassId} {adK adV : Nat → Nat} {b : Nat} {sc : List Int32} {θ : Nat → Nat} {w : AW} {ags : List Value} {sz : Nat} : FrameBlind (a_mPc D cA adK adV b sc θ w ags sz) := fun a U g mk q =>
  ⟨q.1, q.2.1, q.2.2.1, va_K.moved (u := U) (U := U.calling g mk a) (Vm.Alike.refl U.vm) q.2.2.2.1, q.2.2.2.2.1, a_Env.warm (s := U) (U := U.calling g mk a) (State.WarmedH.refl U) q.2.2.2.2.2⟩
section ACL
variable {p : Program} {l : Launch} {e : Env} {R : Room} {s : State} {m : MethodId} {args : Array Value} {below : List Frame} {meth : Method} {c : Code} {H : Heap} {locs : List Loc} {Q : State → Prop}
variable {adK adV : Nat → Nat} {b : Nat} {sc : List Int32} {D : va_G} {cA : Nat → ClassId} {A : Nat → Prop} {θ : Nat → Nat} {w : AW} {ls : AL} {st : List Value} {sl : Array Slot} {d k pc len nc ns : Nat} {N : AN}
theorem a_run {mc ms : Nat} {rest st0 : List Value} {Qa : State → Outcome → State → Prop} {XC : String → State → State → Prop} {free : Addr → Prop} (hr : vx_Run p l e R s m args below meth c H locs nc ns mc ms (F0 m pc sl st0) rest Qa XC free)
    (kk : ∀ (v : Option Value) (st₀ t : State) (L : List Loc), st₀.heap = H → s.vm.Alike t.vm → (∀ q ∈ L, free q.base) → Qa st₀ (.returned v) t → W p l e R s m args below meth c t.heap (locs ++ L) (nc + mc) (ns + ms) Q (F0 m (pc + 3) sl (v.toList ++ rest)))
    (kx : ∀ (E : String) (ce : Cell) (q : Addr) (st₀ t : State) (L : List Loc), st₀.heap = H → s.vm.Alike t.vm → (∀ z ∈ L, free z.base) → XC E st₀ t → t.heap[q]? = some ce → ce.vm = .none → s.vm.findClass E = some ce.cls → vx_W p l e R s m args below meth c t.heap (locs ++ L) (nc + mc) (ns + ms) Q (F0 m pc sl rest) q) :
    W p l e R s m args below meth c H locs nc ns Q (F0 m pc sl st0) := by
  intro T hT X
  rcases hr T hT X with ⟨v, st₀, t, T', L, h0, X', hL, e1, e2, hq, st1⟩ | ⟨q, st₀, t, T', L, E, ce, h0, X', hL, e1, e2, hq, hce, hcv, hcl, st1⟩
  · obtain ⟨t2, a1, b1⟩ := kk v st₀ t L h0 (by rw [← e2]; exact X'.warmed.alike) hL hq T' e1 X'
    exact ⟨t2, st1 t2 a1, b1⟩
  · obtain ⟨t2, a1, b1⟩ := kx E ce q st₀ t L h0 (by rw [← e2]; exact X'.warmed.alike) hL hq hce hcv hcl T' e1 X'
    exact ⟨t2, st1.trans a1, b1⟩
theorem a_runOf {mc ms : Nat} {rest st0 : List Value} {Qa : State → Outcome → State → Prop} {XC : String → State → State → Prop} {free : Addr → Prop} (hr : va_Run p l e R s m args below meth c H locs nc ns mc ms (F0 m pc sl st0) rest Qa free) : vx_Run p l e R s m args below meth c H locs nc ns mc ms (F0 m pc sl st0) rest Qa XC free := fun T hT X => Or.inl (hr T hT X)
theorem a_metOf {y : MethodName} {ws : List Cond} {rm : Room} {Pc : Array Value → State → Prop} {Qc : Array Value → State → Outcome → State → Prop} {XC : String → State → State → Prop} {mc ms : Nat} {free : Addr → Prop} (h : vx_Met l y ws rm Pc Qc XC mc ms free) (hx : ∀ E s t, ¬ XC E s t) : Met l y ws rm Pc Qc mc ms free := by
  intro p e ha hc hk s m args below hf happ hP hK
  obtain ⟨n, o, h1, h2, h3, h4⟩ := h p e ha hc hk s m args below hf happ hP hK
  refine ⟨n, o, h1, h2, h3, ?_⟩
  rcases h4 with h4 | ⟨q, -, E, ce, L, hxx, -⟩
  · exact h4
  · exact absurd hxx (hx _ _ _)
/-- the world that is handed to a callee lies where the caller may write -/
theorem a_sub (hX : a_X adK adV b sc D cA A p l R s m args meth c d k) (hI : a_I D cA adK b A s H locs θ w) : ∀ q, va_A (a_C cA θ w) H.size q → A q := by
  intro q hq
  rcases hq with ⟨i, e9, hi⟩ | hq
  · exact hI.2.1.2 i _ hi
  · exact hX.aA q (Nat.le_trans hI.2.2.1.1 hq)
theorem a_pre (hX : a_X adK adV b sc D cA A p l R s m args meth c d k) (hI : a_I D cA adK b A s H locs θ w) {ags : List Value} {U : State} (hU : U.heap = H) (hW : s.WarmedH U.vm) : a_mPc D cA adK adV b sc θ w ags H.size (ags.map (a_V θ)).toArray U := by
  refine ⟨rfl, by rw [hU], by rw [hU]; exact hI.1, va_K.moved hW.alike hX.K, hI.2.1.weaken (fun _ _ _ _ => trivial), ?_⟩
  rw [hU]
  exact ((hX.E.kept hI.2.2.1.1 hI.2.2.1.2.1).narrow (a_sub hX hI)).warm hW
theorem a_recv (hX : a_X adK adV b sc D cA A p l R s m args meth c d k) (hI : a_I D cA adK b A s H locs θ w) {a cj : Nat} {fs : List Value} (hw : w[a]? = some (.inr (cj, fs))) : cj < 9 ∧ ∃ cellB : Cell, H[θ a]? = some cellB ∧ cellB.vm.isStatics = false ∧ s.vm.findClass (RN cj) = some cellB.cls := by
  have h1 := hI.1 a _ (a_C_get hw)
  obtain ⟨r, hr, -⟩ := h1
  have h2 : cj < 9 := (List.getElem?_eq_some_iff.mp hr).1
  exact ⟨h2, va_recv hX.K hI.1 (a_vw h2) (a_C_get hw)⟩
/-- the world behind a call -/
theorem a_back (hX : a_X adK adV b sc D cA A p l R s m args meth c d k) (hI : a_I D cA adK b A s H locs θ w) {st₀ t : State} {L : List Loc} {θ' : Nat → Nat} {w' : AW} (h0 : st₀.heap = H) (hL : ∀ q ∈ L, va_A (a_C cA θ w) H.size q.base) (hJ : a_J D cA adK b (va_A (a_C cA θ w) H.size) t.heap θ' w') (hF : va_F (va_A (a_C cA θ w) H.size) st₀ t) : a_I D cA adK b A s t.heap (locs ++ L) θ' w' := by
  obtain ⟨-, -, k3⟩ := vx_keep (T' := t) h0 rfl hI.2.2.1 (fun q _ h => a_sub hX hI q h) (fun q h => a_sub hX hI q h) hL hF
  exact ⟨hJ.1, hJ.2.1.weaken (fun _ q _ h => a_sub hX hI q.1 h), k3, hJ.2.2⟩
/-- a handler of the law's own takes the exception -/
theorem a_hc_ok (hX : a_X adK adV b sc D cA A p l R s m args meth c d k) {h : Nat} {z : Int32} {q : Nat} (hz : a_hc k h = some z) (hlv : ∃ lv, lv_has sl (mX k) lv)
    (K : ∀ (pc' : Nat) (sl' : Array Slot), mLk k pc' = some (.ireturn, 1) → mR k = some .int → W p l e R s m args below meth c H locs nc ns Q (F0 m pc' sl' [.int z])) : W p l e R s m args below meth c H locs nc ns Q (F0 m h sl [.ref q]) := by
  obtain ⟨⟨hx, hb, hml, hown, hts⟩, -⟩ := id hX
  obtain ⟨lv, hlv⟩ := hlv
  unfold a_hc at hz
  split at hz
  · rename_i hR
    split at hz
    · rename_i n hd1
      split at hz
      · rename_i hn
        split at hz
        · rename_i v hd2 hd3
          cases hz
          refine lv_astore_n hx hb (a_dec1 hX.kN hd1 rfl) rfl hlv hn rfl (fun sl' hl' => ?_)
          refine lv_iconst hx hb (a_dec1 hX.kN hd2 rfl) rfl ?_
          exact K _ sl' hd3 hR
        · cases hz
      · cases hz
    · rename_i n hd1
      split at hz
      · rename_i hn
        split at hz
        · rename_i v hd2 hd3
          cases hz
          refine lv_astore hx hb (a_dec1 hX.kN hd1 rfl) hlv hn rfl (fun sl' hl' => ?_)
          refine lv_iconst hx hb (a_dec1 hX.kN hd2 rfl) rfl ?_
          exact K _ sl' hd3 hR
        · cases hz
      · cases hz
    · cases hz
  · cases hz
theorem a_castW (hX : a_X adK adV b sc D cA A p l R s m args meth c d k) {v : Nat} (hv : v = 100 ∨ v = 101) : (Cond.castable (xNm v) (xNm v)).before args s = true := by
  have h := hX.E.2.2.2.2.2.2.1
  refine va_Nw.use rfl (h _ (List.mem_append_right _ (List.mem_append_left _ ?_)))
  rcases hv with rfl | rfl <;> simp
theorem a_linkW (hX : a_X adK adV b sc D cA A p l R s m args meth c d k) {ct v : Nat} (h : a_lk (kX (mK k)) ct = some v) : (Cond.classLink (RN (mK k)) ct (xNm v)).before args s = true := hX.1.2.2.2.2 _ (a_inKX hX.kc (a_lk_mem h))
theorem a_hnd_ok (hX : a_X adK adV b sc D cA A p l R s m args meth c d k) {v : Nat} {z : Int32} {q : Nat} {ce : Cell} {rest : List Value} (hz : a_hnd k pc v = some z) (hlv : ∃ lv, lv_has sl (mX k) lv) (hce : H[q]? = some ce) (hcv : ce.vm = .none) (hcl : s.vm.findClass (xNm v) = some ce.cls)
    (K : ∀ (pc' : Nat) (sl' : Array Slot), mLk k pc' = some (.ireturn, 1) → mR k = some .int → W p l e R s m args below meth c H locs nc ns Q (F0 m pc' sl' [.int z])) : vx_W p l e R s m args below meth c H locs nc ns Q (F0 m pc sl rest) q := by
  obtain ⟨⟨hx, hb, hml, hown, hts⟩, -, -, -, htab, -⟩ := id hX
  unfold a_hnd at hz
  split at hz
  · rename_i hv
    split at hz
    · rename_i f t h ct hH
      rw [hH] at htab
      split at hz
      · rename_i h1
        obtain ⟨⟨h2, h3⟩, h4, h5⟩ := h1
        exact vx_catch (name := xNm v) hown [] ⟨f, t, h, ct⟩ [] htab (fun _ q9 => nomatch q9) (by simp [covers, h2, h3]) h4 (a_linkW hX h5) (a_castW hX hv) hce hcv hcl (a_hc_ok hX hz hlv K)
      · cases hz
    · rename_i f t h ct f2 t2 h2 ct2 hH
      rw [hH] at htab
      split at hz
      · rename_i h1
        obtain ⟨⟨g2, g3⟩, g4, g5⟩ := h1
        exact vx_catch (name := xNm v) hown [] ⟨f, t, h, ct⟩ [⟨f2, t2, h2, ct2⟩] htab (fun _ q9 => nomatch q9) (by simp [covers, g2, g3]) g4 (a_linkW hX g5) (a_castW hX hv) hce hcv hcl (a_hc_ok hX hz hlv K)
      · split at hz
        · rename_i h1
          obtain ⟨⟨⟨rfl, g4⟩, g5⟩, ⟨g2, g3⟩, g6, g7⟩ := h1
          refine vx_catch (name := xNm 101) hown [⟨f, t, h, ct⟩] ⟨f2, t2, h2, ct2⟩ [] htab (fun z9 q9 => ?_) (by simp [covers, g2, g3]) g6 (a_linkW hX g7) (a_castW hX hv) hce hcv hcl (a_hc_ok hX hz hlv K)
          rw [List.mem_singleton] at q9
          subst q9
          exact Or.inr ⟨g4, xNm 100, a_linkW hX g5, hX.E.2.2.2.2.2.1⟩
        · cases hz
    · cases hz
  · cases hz
end ACL
end
section
/-! ===== a call, an end, and all runs ===== -/
theorem a_split {θ : Nat → Nat} {n : Nat} {st r : List Value} {v : Value} (h : st.drop n = v :: r) : st.map (a_V θ) = (((st.take n).reverse).map (a_V θ)).reverse ++ a_V θ v :: r.map (a_V θ) := by
  rw [List.map_reverse, List.reverse_reverse, ← List.map_cons, ← List.map_append, ← h, List.take_append_drop]
theorem a_split0 {θ : Nat → Nat} {n : Nat} {st : List Value} : st.map (a_V θ) = (((st.take n).reverse).map (a_V θ)).reverse ++ (st.drop n).map (a_V θ) := by
  rw [List.map_reverse, List.reverse_reverse, ← List.map_append, List.take_append_drop]
theorem cv_inl {kd j : Nat} {st : List Value} {w : AW} {z : AC} (h : a_cv kd j st w = some z) : ∃ (a : Nat) (fs : List Value) (r : List Value), st.drop (mV j) = .ref a :: r ∧ w[a]? = some (.inr (mK j, fs)) ∧ mD j = kd ∧ j + 1 < mN ∧ mH j = [] ∧ a_cat r ≤ 8 ∧ a_cat (.ref a :: (st.take (mV j)).reverse) ≤ mX j ∧ z = (j, .ref a :: (st.take (mV j)).reverse, r) := by
  unfold a_cv at h
  split at h
  · rename_i a r hs
    split at h
    · rename_i cj fs hw
      split at h
      · rename_i h1
        obtain ⟨⟨rfl, h2⟩, h3, h4, h5, h6⟩ := h1
        exact ⟨a, fs, r, hs, hw, h2, h3, h4, h5, h6, (Option.some.inj h).symm⟩
      · cases h
    · cases h
  · cases h
theorem cs_inl {j : Nat} {st : List Value} {z : AC} (h : a_cs j st = some z) : (mV j ≤ st.length ∧ mD j = 1 ∧ j + 1 < mN ∧ a_cat (st.drop (mV j)) ≤ 8 ∧ a_cat (st.take (mV j)).reverse ≤ mX j) ∧ z = (j, (st.take (mV j)).reverse, st.drop (mV j)) := by
  unfold a_cs at h
  split at h
  · rename_i h1
    exact ⟨⟨h1.1.1, h1.1.2, h1.2⟩, (Option.some.inj h).symm⟩
  · cases h
theorem a_wD0 {j : Nat} (h : mD j = 0) : wD j = [mW j, .instanceMethod (mY j), .selects (mY j).cls (mY j) (mY j)] := by unfold wD; rw [h]; rfl
theorem a_wD1 {j : Nat} (h : mD j = 1) : wD j = [mW j, .static (mY j)] := by unfold wD; rw [h]; rfl
theorem a_wD2 {j : Nat} (h : mD j = 2) : wD j = [mW j, .instanceMethod (mY j)] := by unfold wD; rw [h]; rfl
theorem a_nw_use {w : Cond} (h : a_hw w = true) {args : Array Value} {s : State} (hZ : va_Nw w s) : w.before args s = true := by
  cases w with
  | methodLinkNest a i x h => exact va_Nw.use rfl hZ
  | castable a b => exact va_Nw.use rfl hZ
  | declares x => exact va_Nw.use rfl hZ
  | _ => cases h
theorem a_mWs_in {j : Nat} (h : mW j ∈ ALLW) : ∀ z ∈ mWs j, z ∈ ALLW := fun z hz => (List.mem_cons.mp hz).elim (fun e => by rw [e]; exact h) id
section ALLR
variable {p : Program} {l : Launch} {e : Env} {R : Room} {s : State} {m : MethodId} {args : Array Value} {below : List Frame} {meth : Method} {c : Code} {H : Heap} {locs : List Loc} {Q : State → Prop}
variable {adK adV : Nat → Nat} {b : Nat} {sc : List Int32} {D : va_G} {cA : Nat → ClassId} {A : Nat → Prop} {θ : Nat → Nat} {w : AW} {ls : AL} {st : List Value} {sl : Array Slot} {d k pc len nc ns n : Nat} {N : AN}
set_option maxHeartbeats 4000000 in
theorem a_call {i : Instr} {j : Nat} {ags rest : List Value} {res : AR} (IH : a_FS sc n) (hX : a_X adK adV b sc D cA A p l R s m args meth c (d + 1) k) (hI : a_I D cA adK b A s H locs θ w) (hF : a_F θ w (mX k) sl ls st) (hd : mLk k pc = some (i, len)) (hc : cal k st w i = some (j, ags, rest))
    (h : ev sc n d j 0 (lv_args 0 ags) [] w 0 0 = some res) (hkd : mD j = 0 ∨ ∃ v, res.1 = .inl v) (hr : nc + res.2.2.1 ≤ R.cells ∧ ns + res.2.2.2 ≤ R.slots) :
    vx_Run p l e R s m args below meth c H locs nc ns res.2.2.1 res.2.2.2 (F0 m pc sl (st.map (a_V θ))) (rest.map (a_V θ)) (a_mQc D cA adK b θ w H.size res (ags.map (a_V θ)).toArray) (a_mXC D cA adK b θ w H.size res) (va_A (a_C cA θ w) H.size) ∧ ∀ v ∈ rest, a_rk w.length v := by
  have hCF := hX.1
  have hf := hX.f
  have hlo := hX.lo
  have hstk := hF.2.2
  have hlen : a_lo (d + 1) = a_lo d + 100 := by unfold a_lo; omega
  have met : ∀ {j : Nat} {ags : List Value}, ev sc n d j 0 (lv_args 0 ags) [] w 0 0 = some res → j + 1 < mN → a_cat ags ≤ mX j → (∀ v ∈ ags, a_rk w.length v) → vx_Met l (mY j) (mWs j) (mRm d res) (a_mPc D cA adK adV b sc θ w ags H.size) (a_mQc D cA adK b θ w H.size res) (a_mXC D cA adK b θ w H.size res) res.2.2.1 res.2.2.2 (va_A (a_C cA θ w) H.size) :=
    fun h hj hcat hk => a_met IH h hj hcat hk hI.2.2.2.1 hI.2.2.2.2.1 hI.2.2.2.2.2.1 hI.2.2.2.2.2.2 l hX.2.2.1 D cA adV H.size
  have nox : (∃ v, res.1 = .inl v) → ∀ E s0 t0, ¬ a_mXC D cA adK b θ w H.size res E s0 t0 := by
    rintro ⟨v, hv⟩ E s0 t0 ⟨x, θ', hx, -⟩
    rw [hv] at hx
    cases hx
  have catr : ∀ {r : List Value}, a_cat r ≤ 8 → 2 * (F0 m pc sl (st.map (a_V θ))).monitorRoom + ((r.map (a_V θ)).map fun v => v.category).sum ≤ 8 := fun {r} hr => by
    have := a_cat_V θ r
    unfold a_cat at this hr
    show 2 * 0 + _ ≤ 8
    omega
  have rm : ∀ {j : Nat}, mX j ≤ 60 → (mRm d res).frames + 1 ≤ R.frames ∧ 8 + (mX j + 11) + (mRm d res).locals ≤ R.locals := fun {j} h60 => by
    constructor
    · show d + 1 ≤ _
      exact hf
    · show 8 + (mX j + 11) + a_lo d ≤ _
      omega
  have kin : ∀ v ∈ st, a_rk w.length v := hstk
  cases i with
  | invokevirtual x =>
    have h1 : (match a_lk (kM (mK k)) x with
      | some (0, j) => a_cv 0 j st w
      | _ => none) = some (j, ags, rest) := hc
    split at h1
    · rename_i j0 hj
      obtain ⟨a, fs, r, hs, hw, hD, hjN, hH, hrc, hac, e0⟩ := cv_inl h1
      cases e0
      obtain ⟨f1, f2, f3, f4, f5, f6, f7, f8, f9⟩ := mPb_f (k := j) (by omega)
      have hta : ∀ v ∈ st.take (mV j), a_rk w.length v := fun v hv => kin v (List.mem_of_mem_take hv)
      have hdr : ∀ v ∈ Value.ref a :: rest, a_rk w.length v := fun v hv => kin v (List.mem_of_mem_drop (by rw [hs]; exact hv))
      refine ⟨?_, a_tl hdr⟩
      have hM := met h hjN hac (fun v hv => (List.mem_cons.mp hv).elim (fun q => by rw [q]; exact a_hd hdr) (fun q => hta v (List.mem_reverse.mp q)))
      have hdw := a_inDW hjN
      rw [a_wD0 hD] at hdw
      have hG : GoodIn ALLW (wsV (RN (mK k)) x (mY j).cls (mY j) (mWs j)) := a_gd (fun z hz => by
        rcases List.mem_append.mp hz with q | q
        · simp only [List.mem_cons, List.not_mem_nil, or_false] at q
          rcases q with rfl | rfl | rfl | rfl
          · exact a_inM hX.kc (a_lk_mem hj) (fun z9 => nomatch z9)
          · exact hdw _ (by simp)
          · exact hdw _ (by simp)
          · rw [f3]; exact a_inI f7
        · exact a_mWs_in (hdw _ (by simp)) z q)
      have hl9 : (st.take (mV j)).length = mV j := by
        have : (st.drop (mV j)).length = rest.length + 1 := by rw [hs]; rfl
        rw [List.length_drop] at this
        rw [List.length_take]; omega
      obtain ⟨-, cellB, g1, g2, g3⟩ := a_recv hX hI hw
      exact vx_runV (As := ((st.take (mV j)).reverse).map (a_V θ)) hCF hM (cwV (mV j) hCF.2.2.2.2 hG (by unfold mWs; rw [mW_n hH]) rfl rfl ⟨rfl, f6.1, f6.2, f4⟩ (rm f5))
        ⟨a_mBlind, ⟨cellB, g1, g2, by rw [f3]; exact g3⟩, fun U hU hW => a_pre hX hI hU hW⟩ rfl (by rw [List.length_map, List.length_reverse]; exact hl9) hF.1.1 (a_split hs) (catr hrc) (a_dec1 hX.kN hd rfl) hr
    · cases h1
  | invokestatic x =>
    have h1 : (match a_lk (kM (mK k)) x with
      | some (0, j) => a_cs j st
      | _ => none) = some (j, ags, rest) := hc
    split at h1
    · rename_i j0 hj
      obtain ⟨⟨hle, hD, hjN, hrc, hac⟩, e0⟩ := cs_inl h1
      cases e0
      obtain ⟨f1, f2, f3, f4, f5, f6, f7, f8, f9⟩ := mPb_f (k := j) (by omega)
      refine ⟨?_, fun v hv => kin v (List.mem_of_mem_drop hv)⟩
      have hinl : ∃ v, res.1 = .inl v := hkd.elim (fun q => by rw [hD] at q; cases q) id
      have hM := a_metOf (met h hjN hac (fun v hv => kin v (List.mem_of_mem_take (List.mem_reverse.mp hv)))) (nox hinl)
      have hdw := a_inDW hjN
      rw [a_wD1 hD] at hdw
      have hG : GoodIn ALLW (va_wsS (RN (mK k)) x (mY j) (mWs j)) := a_gd (fun z hz => by
        rcases List.mem_append.mp hz with q | q
        · simp only [List.mem_cons, List.not_mem_nil, or_false] at q
          rcases q with rfl | rfl | rfl
          · exact a_inM hX.kc (a_lk_mem hj) (fun z9 => nomatch z9)
          · exact hdw _ (by simp)
          · rw [f3]; exact a_inI f7
        · exact a_mWs_in (hdw _ (by simp)) z q)
      have hl9 : (st.take (mV j)).length = mV j := by rw [List.length_take]; omega
      cases hH : mH j with
      | nil =>
        exact a_runOf (va_runS (As := ((st.take (mV j)).reverse).map (a_V θ)) hCF hM (va_cwS (mV j) hCF.2.2.2.2 hG (by unfold mWs; rw [mW_n hH]) rfl rfl ⟨f6.1, f6.2, f4⟩ (rm f5))
          ⟨a_mBlind, fun U hU hW => a_pre hX hI hU hW⟩ rfl (by rw [List.length_map, List.length_reverse]; exact hl9) hF.1.1 a_split0 (catr hrc) (a_dec1 hX.kN hd rfl) hr)
      | cons z zs =>
        exact a_runOf (vx_runSW (As := ((st.take (mV j)).reverse).map (a_V θ)) hCF hM (vx_cwSW (mV j) hCF.2.2.2.2 hG (by unfold mWs; rw [mW_h hH]) rfl rfl ⟨f6.1, f6.2, f4⟩ (rm f5))
          ⟨a_mBlind, fun U hU hW => a_pre hX hI hU hW⟩ rfl (by rw [List.length_map, List.length_reverse]; exact hl9) hF.1.1 a_split0 (catr hrc) (a_dec1 hX.kN hd rfl) hr)
    · cases h1
  | invokespecial x =>
    have h1 : (match a_lk (kM (mK k)) x with
      | some (0, j) => a_cv 2 j st w
      | some (1, j) => a_cv 2 j st w
      | _ => none) = some (j, ags, rest) := hc
    have both : ∃ (t j0 : Nat), (t = 0 ∨ t = 1) ∧ a_lk (kM (mK k)) x = some (t, j0) ∧ a_cv 2 j0 st w = some (j, ags, rest) := by
      split at h1
      · rename_i j0 hj
        exact ⟨0, j0, Or.inl rfl, hj, h1⟩
      · rename_i j0 hj
        exact ⟨1, j0, Or.inr rfl, hj, h1⟩
      · cases h1
    obtain ⟨t, j0, ht, hj, h1⟩ := both
    obtain ⟨a, fs, r, hs, hw, hD, hjN, hH, hrc, hac, e0⟩ := cv_inl h1
    cases e0
    obtain ⟨f1, f2, f3, f4, f5, f6, f7, f8, f9⟩ := mPb_f (k := j) (by omega)
    have hta : ∀ v ∈ st.take (mV j), a_rk w.length v := fun v hv => kin v (List.mem_of_mem_take hv)
    have hdr : ∀ v ∈ Value.ref a :: rest, a_rk w.length v := fun v hv => kin v (List.mem_of_mem_drop (by rw [hs]; exact hv))
    refine ⟨?_, a_tl hdr⟩
    have hinl : ∃ v, res.1 = .inl v := hkd.elim (fun q => by rw [hD] at q; cases q) id
    have hM := a_metOf (met h hjN hac (fun v hv => (List.mem_cons.mp hv).elim (fun q => by rw [q]; exact a_hd hdr) (fun q => hta v (List.mem_reverse.mp q)))) (nox hinl)
    have hdw := a_inDW hjN
    rw [a_wD2 hD] at hdw
    have hG : GoodIn ALLW (mWs j) := a_gd (a_mWs_in (hdw _ (by simp)))
    have hini : (Cond.initialized (mY j).cls).before args s = true := by rw [f3]; exact hCF.2.2.2.2 _ (a_inI f7)
    have hin : (Cond.instanceMethod (mY j)).before args s = true := hCF.2.2.2.2 _ (hdw _ (by simp))
    have hl9 : (st.take (mV j)).length = mV j := by
      have : (st.drop (mV j)).length = rest.length + 1 := by rw [hs]; rfl
      rw [List.length_drop] at this
      rw [List.length_take]; omega
    have hw0 : mWs j = Cond.code (mY j) (mB j) (mX j) none :: ALLW := by unfold mWs; rw [mW_n hH, f9 hD]
    rcases ht with rfl | rfl
    · exact a_runOf (va_runI (As := ((st.take (mV j)).reverse).map (a_V θ)) hCF hM (cwI (mV j) hCF.2.2.2.2 hG hw0 rfl rfl hini (hCF.2.2.2.2 _ (a_inM hX.kc (a_lk_mem hj) (fun z9 => nomatch z9))) hin (f8.mp hD) ⟨f6.1, f6.2, f4⟩ (rm f5))
        ⟨a_mBlind, fun U hU hW => a_pre hX hI hU hW⟩ rfl (by rw [List.length_map, List.length_reverse]; exact hl9) hF.1.1 (a_split hs) (catr hrc) (a_dec1 hX.kN hd rfl) hr)
    · have hnw : va_Nw (.methodLinkNest (RN (mK k)) x (mY j) "SnuffMill") s := hX.E.2.2.2.2.2.2.1 _ (a_inMN (q := (x, 1, j)) hX.kc (a_lk_mem hj) rfl)
      exact a_runOf (va_runIN (As := ((st.take (mV j)).reverse).map (a_V θ)) hCF hM ⟨va_cnB (mV j) hCF.2.2.2.2 hG hw0 rfl rfl hnw hini ⟨f6.1, f6.2, f4⟩ (rm f5), f8.mp hD, hin⟩
        ⟨a_mBlind, fun U hU hW => a_pre hX hI hU hW⟩ rfl (by rw [List.length_map, List.length_reverse]; exact hl9) hF.1.1 (a_split hs) (catr hrc) (a_dec1 hX.kN hd rfl) hr)
  | _ => cases hc
theorem ret_gen {i : Instr} {o : AO} (h : a_ret k i st = some o) : ∃ v, o = (.inl v, 0, 0) := by
  unfold a_ret at h
  split at h
  · cases h; exact ⟨_, rfl⟩
  · split at h
    · cases h; exact ⟨_, rfl⟩
    · cases h
  · cases h; exact ⟨_, rfl⟩
  · cases h; exact ⟨_, rfl⟩
  · cases h
theorem thr_inl {v : Nat} (h : a_thr k pc v = true) : mK k = 7 ∧ ∃ (x y i : Nat), mLk k (pc + 3) = some (.dup, 1) ∧ mLk k (pc + 4) = some (.ldc_w x, 3) ∧ mLk k (pc + 7) = some (.invokespecial y, 3) ∧ mLk k (pc + 10) = some (.athrow, 1) ∧ a_lk (kS 7) x = some i ∧ i < sN ∧ ((v = 100 → y = 340) ∧ (¬ v = 100 → y = 347)) := by
  unfold a_thr at h
  rw [Bool.and_eq_true] at h
  obtain ⟨h1, h2⟩ := h
  refine ⟨Nat.eq_of_beq_eq_true h1, ?_⟩
  split at h2
  · rename_i x y e1 e2 e3 e4
    rw [Bool.and_eq_true] at h2
    obtain ⟨h3, h4⟩ := h2
    split at h3
    · rename_i i e5
      refine ⟨x, y, i, e1, e2, e3, e4, e5, Nat.le_of_ble_eq_true h3, fun hv => ?_, fun hv => ?_⟩
      · subst hv
        exact Nat.eq_of_beq_eq_true h4
      · have : Nat.beq v 100 = false := by
          cases hb : Nat.beq v 100 with
          | true => exact absurd (Nat.eq_of_beq_eq_true hb) hv
          | false => rfl
        rw [this] at h4
        exact Nat.eq_of_beq_eq_true h4
    · cases h3
  · cases h2
theorem xw_ok : ∀ v : Nat, v = 100 ∨ v = 101 → ∀ w ∈ Cond.classLink RX7 0 (xNm v) :: Cond.initialized (xNm v) :: a_xw v, vx_ot w = true := by
  rintro v (rfl | rfl) <;> decide +kernel
theorem xw_before (hX : a_X adK adV b sc D cA A p l R s m args meth c d k) {v : Nat} (hv : v = 100 ∨ v = 101) : ∀ w ∈ a_xw v, w.before args s = true := by
  intro w hw
  cases hg : goodWord w with
  | true =>
    refine hX.1.2.2.2.2 _ (a_inX _ (List.mem_append_right _ ?_))
    rcases hv with rfl | rfl
    · exact List.mem_append_left _ (List.mem_filter.mpr ⟨hw, hg⟩)
    · exact List.mem_append_right _ (List.mem_filter.mpr ⟨hw, hg⟩)
  | false =>
    have hm : w ∈ AWN := by
      refine List.mem_append_right _ (List.mem_append_right _ ?_)
      rcases hv with rfl | rfl
      · exact List.mem_append_left _ (List.mem_filter.mpr ⟨hw, by rw [hg]; rfl⟩)
      · exact List.mem_append_right _ (List.mem_filter.mpr ⟨hw, by rw [hg]; rfl⟩)
    exact a_nw_use (List.all_eq_true.mp AWN_hw w hm) (hX.E.2.2.2.2.2.2.1 w hm)
set_option maxHeartbeats 2000000 in
theorem s_fin {i : Instr} {o : AO} {n0 : Nat} {θ0 : Nat → Nat} (hX : a_X adK adV b sc D cA A p l R s m args meth c d k) (hI : a_I D cA adK b A s H locs θ w) (hF : a_F θ w (mX k) sl ls st) (hd : mLk k pc = some (i, len)) (h0 : fin d k pc st i = some o) (hex : a_ex n0 θ0 θ) (hr : nc + o.2.1 ≤ R.cells ∧ ns + o.2.2 ≤ R.slots)
    (hEnd : a_End adK b D cA A p l e R s m args below meth c Q k n0 θ0 (o.1, w, nc + o.2.1, ns + o.2.2)) : W p l e R s m args below meth c H locs nc ns Q (F0 m pc sl (st.map (a_V θ))) := by
  have one : ∀ j : Instr, a_lenOk j len = Nat.beq len 1 → mLk k pc = some (j, len) → mLk k pc = some (j, 1) := fun j hj h9 => by
    have h1 := a_declen hX.kN h9
    rw [hj] at h1
    rw [← Nat.eq_of_beq_eq_true h1]; exact h9
  have hret : ∀ j : Instr, a_lenOk j len = Nat.beq len 1 → mLk k pc = some (j, len) → a_ret k j st = some o → W p l e R s m args below meth c H locs nc ns Q (F0 m pc sl (st.map (a_V θ))) := fun j hj h9 hr9 => by
    obtain ⟨v, rfl⟩ := ret_gen hr9
    exact hEnd.1 v rfl θ H locs sl pc j st (one j hj h9) hr9 hex hI
  cases i with
  | ireturn => exact hret _ rfl hd h0
  | lreturn => exact hret _ rfl hd h0
  | return_ => exact hret _ rfl hd h0
  | new x =>
    have h1 : a_thx d k x pc st = some o := h0
    unfold a_thx at h1
    split at h1
    · rename_i v hv
      split at h1
      · rename_i h2
        obtain ⟨hv9, hd6, hcat, hthr, hH⟩ := h2
        cases h1
        obtain ⟨h7, x1, y, i, e1, e2, e3, e4, e5, hi, hy⟩ := thr_inl hthr
        obtain ⟨⟨hx, hb, hml, hown, hts⟩, hlocks, hl, -, htab, -⟩ := id hX
        obtain ⟨Qc, XC, free, hQ, hfree, hxc⟩ := hEnd.2 v rfl
        subst hQ
        have hE := hX.E
        have hf := hX.f
        have hlo := hX.lo
        have hkn := hX.kN
        rw [h7] at hown hv
        have hxw : a_xw v = (a_xAll RX7 y (xNm v) (a_rj v) (a_rx v)).filter vx_no := by
          rcases hv9 with rfl | rfl
          · rw [hy.1 rfl]; rfl
          · rw [hy.2 (by decide)]; rfl
        have hot := xw_ok v hv9
        refine a_throwSW (own := RX7) (cls := xNm v) (text := sT i) (ik := x) (is := x1) (ic := y) (ix := a_rj v) (rx := a_rx v) (sa := adK i) (A := A) (cc := mB k) hx hb hl ?_ ?_ ?_ ?_ hown ?_ (hts _ (a_inKX (c := 7) (by decide) (a_lk_mem hv))) (hts _ (a_inX _ (List.mem_append_left _ ?_))) ?_ ?_ ?_ hE.2.1 hE.2.2.1 hI.2.2.1 (by rw [hml]; exact hF.1.1)
          (a_dec1 hkn hd rfl) (a_dec hkn e1) (a_dec hkn e2) (a_dec hkn e3) (a_dec hkn e4) ?_ ?_ ?_ hr.1 hr.2 hlocks ?_ ?_ (Nat.le_refl _) (Nat.le_refl _)
        · rcases hv9 with rfl | rfl <;> decide +kernel
        · rcases hv9 with rfl | rfl <;> decide +kernel
        · rcases hv9 with rfl | rfl <;> decide +kernel
        · rcases hv9 with rfl | rfl <;> decide +kernel
        · rcases hv9 with rfl | rfl <;> decide +kernel
        · rcases hv9 with rfl | rfl <;> simp
        · have := a_str hX (x := x1) (i := i) (by rw [h7]; exact e5)
          rw [h7] at this
          exact this
        · rw [← hxw]; exact xw_before hX hv9
        · rw [← hxw]
          intro z hz
          rcases List.mem_cons.mp hz with rfl | hz
          · rfl
          · exact hot z (List.mem_cons_of_mem _ hz)
        · intro z hz
          rw [htab, hH] at hz
          cases hz
        · omega
        · have := a_cat_V θ st
          unfold a_cat at this hcat
          unfold a_lo at hlo
          omega
        · intro t ht hz hq
          exact hxc θ H locs t hex hI ht hz hq
        · exact fun z hz => hfree _ (hI.2.2.1.2.2 z hz)
      · cases h1
    · cases h1
  | _ => cases h0
end ALLR
end
section
/-! ===== every run of the abstract machine is a run of the class ===== -/
theorem a_ret_int {k : Nat} {z : Int32} (h : mR k = some .int) : a_ret k .ireturn [.int z] = some (.inl (some (.int z)), 0, 0) := by unfold a_ret; rw [h]
section ALLS
variable {p : Program} {l : Launch} {e : Env} {R : Room} {s : State} {m : MethodId} {args : Array Value} {below : List Frame} {meth : Method} {c : Code} {H : Heap} {locs : List Loc} {Q : State → Prop}
variable {adK adV : Nat → Nat} {b : Nat} {sc : List Int32} {D : va_G} {cA : Nat → ClassId} {A : Nat → Prop} {θ : Nat → Nat} {w : AW} {ls : AL} {st : List Value} {sl : Array Slot} {d k pc len nc ns n : Nat} {N : AN}
set_option maxHeartbeats 4000000 in
/-- a call, and what the caller does with its answer -/
theorem s_cal {i : Instr} {j n0 : Nat} {ags rest : List Value} {r res : AR} {θ0 : Nat → Nat} (IH : a_FS sc n) (hX : a_X adK adV b sc D cA A p l R s m args meth c (d + 1) k) (hI : a_I D cA adK b A s H locs θ w) (hF : a_F θ w (mX k) sl ls st) (hd : mLk k pc = some (i, len)) (hc : cal k st w i = some (j, ags, rest))
    (h : ev sc n d j 0 (lv_args 0 ags) [] w 0 0 = some r) (hb : a_bk k pc j rest nc ns (fun st' w' a b => ev sc n (d + 1) k (pc + 3) ls st' w' a b) (some r) = some res) (hex : a_ex n0 θ0 θ) (hn0 : n0 ≤ w.length) (hrc : res.2.2.1 ≤ R.cells) (hrs : res.2.2.2 ≤ R.slots)
    (hEnd : a_End adK b D cA A p l e R s m args below meth c Q k n0 θ0 res) : W p l e R s m args below meth c H locs nc ns Q (F0 m pc sl (st.map (a_V θ))) := by
  obtain ⟨-, -, hlw, -⟩ := IH d j 0 _ [] w 0 0 r h
  obtain ⟨o, w', a, b9⟩ := r
  cases o with
  | inl v =>
    have h2 : ev sc n (d + 1) k (pc + 3) ls (v.toList ++ rest) w' (nc + a) (ns + b9) = some res := hb
    obtain ⟨i1, i2, i3, i4⟩ := IH _ _ _ _ _ _ _ _ _ h2
    obtain ⟨hrun, hkn⟩ := a_call IH hX hI hF hd hc h (Or.inr ⟨v, rfl⟩) ⟨Nat.le_trans i1 hrc, Nat.le_trans i2 hrs⟩
    refine a_run hrun (fun v0 st₀ t L h0 hv hL hQ => ?_) (fun E ce q st₀ t L h0 hv hL hQ hce hcv hcl => ?_)
    · obtain ⟨⟨v1, θ', e1, hex', e2, hJ, hval⟩, hF9⟩ := hQ
      cases e1
      cases e2
      have hI' := a_back hX hI h0 hL hJ hF9
      have hm : (v.toList ++ rest).map (a_V θ') = v.toList ++ rest.map (a_V θ) := by
        rw [List.map_append, a_Vs_ex hex' hkn]
        congr 1
        cases v with
        | none => rfl
        | some u => exact congrArg (fun z => [z]) ((hval u (by simp) 0).2 θ')
      rw [← hm]
      exact i4 p l e R s m args below meth c t.heap _ Q adK adV b D cA A θ' sl n0 θ0 hX hI' ((hF.ex hex' hlw).st (fun u hu => by
        rcases List.mem_append.mp hu with q | q
        · exact (hval u q _).1
        · exact a_rk_mono (hkn u q) hlw)) (a_ex_tr hex hex' hn0) (Nat.le_trans hn0 hlw) hrc hrs hEnd
    · obtain ⟨x, θ', e1, -⟩ := hQ
      cases e1
  | inr x =>
    have h2 : (if mD j = 0 then (match mH k with
      | [] => some (Sum.inr x, w', nc + a, ns + b9)
      | _ :: _ => match a_hnd k pc x with
        | some z => some (Sum.inl (some (.int z)), w', nc + a, ns + b9)
        | none => none) else none) = some res := hb
    split at h2
    · rename_i hD
      have hrr : nc + a ≤ R.cells ∧ ns + b9 ≤ R.slots := by
        split at h2
        · cases h2; exact ⟨hrc, hrs⟩
        · split at h2
          · cases h2; exact ⟨hrc, hrs⟩
          · cases h2
      obtain ⟨hrun, hkn⟩ := a_call IH hX hI hF hd hc h (Or.inl hD) hrr
      refine a_run hrun (fun v0 st₀ t L h0 hv hL hQ => ?_) (fun E ce q st₀ t L h0 hv hL hQ hce hcv hcl => ?_)
      · obtain ⟨⟨v1, θ', e1, -⟩, -⟩ := hQ
        cases e1
      · obtain ⟨x1, θ', e1, rfl, hex', hJ, hF9⟩ := hQ
        cases e1
        have hI' := a_back hX hI h0 hL hJ hF9
        have hex2 := a_ex_tr hex hex' hn0
        split at h2
        · rename_i hH
          cases h2
          obtain ⟨Qc, XC, free, hQ, hfree, hxc⟩ := hEnd.2 x rfl
          subst hQ
          refine vx_out (E := xNm x) (fun z hz => ?_) hX.2.1 hce hcv hcl (fun t' e9 ha => hxc θ' t.heap _ t' hex2 hI' ha (by rw [e9]; exact Nat.le_refl _) (fun q9 _ => by rw [e9])) (fun z hz => hfree _ (hI'.2.2.1.2.2 z hz)) (Nat.le_refl _) (Nat.le_refl _)
          rw [hX.2.2.2.2.1, hH] at hz
          cases hz
        · split at h2
          · rename_i z hz
            cases h2
            exact a_hnd_ok hX hz ⟨_, hF.1⟩ hce hcv hcl (fun pc' sl' hlk hmr => hEnd.1 _ rfl θ' t.heap _ sl' pc' .ireturn [.int z] hlk (a_ret_int hmr) hex2 hI')
          · cases h2
    · cases h2
end ALLS
set_option maxHeartbeats 4000000 in
theorem a_fs (sc : List Int32) : ∀ n : Nat, a_FS sc n
  | 0 => fun d k pc ls st w nc ns res h => by cases h
  | n + 1 => by
    have IH := a_fs sc n
    intro d k pc ls st w nc ns res h
    unfold ev at h
    split at h
    · cases h
    · rename_i i len hd
      split at h
      · rename_i pc' ls' st' w' a b9 hins
        obtain ⟨g1, g2, g3, g4⟩ := IH _ _ _ _ _ _ _ _ _ h
        have hl : w.length ≤ w'.length := ins_len hins
        refine ⟨by omega, by omega, Nat.le_trans hl g3, ?_⟩
        intro p l e R s m args below meth c H locs Q adK adV b D cA A θ sl n0 θ0 hX hI hF hex hn0 hrc hrs hEnd
        exact s_all hX hI hF hd hins ⟨Nat.le_trans g1 hrc, Nat.le_trans g2 hrs⟩ (fun θ' H' locs' sl' hex' hI' hF' =>
          g4 p l e R s m args below meth c H' locs' Q adK adV b D cA A θ' sl' n0 θ0 hX hI' hF' (a_ex_tr hex hex' hn0) (Nat.le_trans hn0 hl) hrc hrs hEnd)
      · split at h
        · rename_i o a b9 hfin
          cases h
          refine ⟨Nat.le_add_right _ _, Nat.le_add_right _ _, Nat.le_refl _, ?_⟩
          intro p l e R s m args below meth c H locs Q adK adV b D cA A θ sl n0 θ0 hX hI hF hex hn0 hrc hrs hEnd
          exact s_fin hX hI hF hd hfin hex ⟨hrc, hrs⟩ hEnd
        · split at h
          · rename_i j ags rest hcal
            cases d with
            | zero => cases h
            | succ d' =>
              have h1 : a_bk k pc j rest nc ns (fun st' w' a b => ev sc n (d' + 1) k (pc + 3) ls st' w' a b) (ev sc n d' j 0 (lv_args 0 ags) [] w 0 0) = some res := h
              cases hev : ev sc n d' j 0 (lv_args 0 ags) [] w 0 0 with
              | none => rw [hev] at h1; cases h1
              | some r =>
                rw [hev] at h1
                obtain ⟨q1, q2, q3, -⟩ := IH _ _ _ _ _ _ _ _ _ hev
                have key : nc ≤ res.2.2.1 ∧ ns ≤ res.2.2.2 ∧ w.length ≤ res.2.1.length := by
                  obtain ⟨o, w', a, b9⟩ := r
                  cases o with
                  | inl v =>
                    obtain ⟨i1, i2, i3, -⟩ := IH _ _ _ _ _ _ _ _ _ (show ev sc n (d' + 1) k (pc + 3) ls (v.toList ++ rest) w' (nc + a) (ns + b9) = some res from h1)
                    exact ⟨Nat.le_trans (Nat.le_add_right _ _) i1, Nat.le_trans (Nat.le_add_right _ _) i2, Nat.le_trans q3 i3⟩
                  | inr x =>
                    have h2 : (if mD j = 0 then (match mH k with
                      | [] => some (Sum.inr x, w', nc + a, ns + b9)
                      | _ :: _ => match a_hnd k pc x with
                        | some z => some (Sum.inl (some (.int z)), w', nc + a, ns + b9)
                        | none => none) else none) = some res := h1
                    split at h2
                    · split at h2
                      · cases h2; exact ⟨Nat.le_add_right _ _, Nat.le_add_right _ _, q3⟩
                      · split at h2
                        · cases h2; exact ⟨Nat.le_add_right _ _, Nat.le_add_right _ _, q3⟩
                        · cases h2
                    · cases h2
                refine ⟨key.1, key.2.1, key.2.2, ?_⟩
                intro p l e R s m args below meth c H locs Q adK adV b D cA A θ sl n0 θ0 hX hI hF hex hn0 hrc hrs hEnd
                exact s_cal IH hX hI hF hd hcal hev h1 hex hn0 hrc hrs hEnd
          · cases h
end
