/-! ===== the abstract machine: the same bytecode, over a world of numbered cells ===== -/
/-- a cell: an array (0 of int, 1 of byte, 2 of long; what it holds), or an object (its class, its fields) -/
abbrev AE : Type := (Nat × (List Int32 ⊕ List Int64)) ⊕ (Nat × List Value)
abbrev AW : Type := List AE
abbrev AL : Type := List (Nat × Value)
abbrev AN : Type := Nat × AL × List Value × AW × Nat × Nat
abbrev AO : Type := (Option Value ⊕ Nat) × Nat × Nat
abbrev AC : Type := Nat × List Value × List Value
abbrev AR : Type := (Option Value ⊕ Nat) × AW × Nat × Nat
/-- from here on: the text constants; one below: the script -/
noncomputable def a_SB : Nat := 1000000
noncomputable def a_SC : Nat := 999999
noncomputable def a_cat (st : List Value) : Nat := (st.map fun v => v.category).sum
noncomputable def a_s1 (ls : AL) (i : Nat) (v : Value) : AL := (i, v) :: ls.filter (fun q => !(q.1 == i) && !(q.1 + 1 == i && q.2.category == 2))
noncomputable def a_s2 (ls : AL) (i : Nat) (v : Value) : AL := (i, v) :: ls.filter (fun q => !(q.1 == i) && (!(q.1 == i + 1) && !(q.1 + 1 == i && q.2.category == 2)))
noncomputable def a_nx (pc : Nat) (ls : AL) (st : List Value) (w : AW) : Option AN := some (pc, ls, st, w, 0, 0)
noncomputable def a_to (pc : Nat) (off : Int) (ls : AL) (st : List Value) (w : AW) : Option AN :=
  if 0 ≤ (pc : Int) + off then a_nx ((pc : Int) + off).toNat ls st w else none
noncomputable def a_jmp (c : Prop) [Decidable c] (pc : Nat) (off : Int) (ls : AL) (st : List Value) (w : AW) : Option AN :=
  if 0 ≤ (pc : Int) + off then (if c then a_nx ((pc : Int) + off).toNat ls st w else a_nx (pc + 3) ls st w) else none
noncomputable def a_i1 (f : Int32 → Int32) (pc : Nat) (ls : AL) (st : List Value) (w : AW) : Option AN := match st with
  | .int x :: r => a_nx (pc + 1) ls (.int (f x) :: r) w
  | _ => none
noncomputable def a_i2 (f : Int32 → Int32 → Int32) (pc : Nat) (ls : AL) (st : List Value) (w : AW) : Option AN := match st with
  | .int y :: .int x :: r => a_nx (pc + 1) ls (.int (f x y) :: r) w
  | _ => none
noncomputable def a_i2z (f : Int32 → Int32 → Int32) (pc : Nat) (ls : AL) (st : List Value) (w : AW) : Option AN := match st with
  | .int y :: .int x :: r => if y = 0 then none else a_nx (pc + 1) ls (.int (f x y) :: r) w
  | _ => none
noncomputable def a_l2 (f : Int64 → Int64 → Int64) (pc : Nat) (ls : AL) (st : List Value) (w : AW) : Option AN := match st with
  | .long y :: .long x :: r => a_nx (pc + 1) ls (.long (f x y) :: r) w
  | _ => none
noncomputable def a_l2z (f : Int64 → Int64 → Int64) (pc : Nat) (ls : AL) (st : List Value) (w : AW) : Option AN := match st with
  | .long y :: .long x :: r => if y = 0 then none else a_nx (pc + 1) ls (.long (f x y) :: r) w
  | _ => none
noncomputable def a_lcmp (pc : Nat) (ls : AL) (st : List Value) (w : AW) : Option AN := match st with
  | .long y :: .long x :: r => a_nx (pc + 1) ls (.int (lg_cmp x y) :: r) w
  | _ => none
noncomputable def a_i2l (pc : Nat) (ls : AL) (st : List Value) (w : AW) : Option AN := match st with
  | .int x :: r => a_nx (pc + 1) ls (.long x.toInt64 :: r) w
  | _ => none
noncomputable def a_ldI (v : Option Value) (pc : Nat) (ls : AL) (st : List Value) (w : AW) : Option AN := match v with
  | some (.int x) => a_nx pc ls (.int x :: st) w
  | _ => none
noncomputable def a_ldL (v : Option Value) (pc : Nat) (ls : AL) (st : List Value) (w : AW) : Option AN := match v with
  | some (.long x) => a_nx pc ls (.long x :: st) w
  | _ => none
noncomputable def a_ldA (v : Option Value) (pc : Nat) (ls : AL) (st : List Value) (w : AW) : Option AN := match v with
  | some (.ref x) => a_nx pc ls (.ref x :: st) w
  | _ => none
noncomputable def a_stI (n i pc : Nat) (ls : AL) (st : List Value) (w : AW) : Option AN := match st with
  | .int x :: r => if i < n then a_nx pc (a_s1 ls i (.int x)) r w else none
  | _ => none
noncomputable def a_stL (n i pc : Nat) (ls : AL) (st : List Value) (w : AW) : Option AN := match st with
  | .long x :: r => if i + 1 < n then a_nx pc (a_s2 ls i (.long x)) r w else none
  | _ => none
noncomputable def a_stA (n i pc : Nat) (ls : AL) (st : List Value) (w : AW) : Option AN := match st with
  | .ref x :: r => if i < n then a_nx pc (a_s1 ls i (.ref x)) r w else none
  | _ => none
noncomputable def a_inc (n i : Nat) (c : Int) (pc : Nat) (ls : AL) (st : List Value) (w : AW) : Option AN := match a_lk ls i with
  | some (.int x) => if i < n then a_nx (pc + 3) (a_s1 ls i (.int (x + Int32.ofInt c))) st w else none
  | _ => none
noncomputable def a_ldc (c x pc : Nat) (ls : AL) (st : List Value) (w : AW) : Option AN := match a_lk (kI c) x with
  | some v => a_nx pc ls (.int v :: st) w
  | none => match a_lk (kS c) x with
    | some i => if i < sN then a_nx pc ls (.ref (a_SB + i) :: st) w else none
    | none => none
noncomputable def a_ldc2 (c x pc : Nat) (ls : AL) (st : List Value) (w : AW) : Option AN := match a_lk (kL c) x with
  | some v => a_nx pc ls (.long v :: st) w
  | none => none
noncomputable def a_dup (pc : Nat) (ls : AL) (st : List Value) (w : AW) : Option AN := match st with
  | v :: r => if v.category = 1 then a_nx (pc + 1) ls (v :: v :: r) w else none
  | _ => none
noncomputable def a_pop (pc : Nat) (ls : AL) (st : List Value) (w : AW) : Option AN := match st with
  | v :: r => if v.category = 1 then a_nx (pc + 1) ls r w else none
  | _ => none
noncomputable def a_dup2 (pc : Nat) (ls : AL) (st : List Value) (w : AW) : Option AN := match st with
  | u :: v :: r => if u.category = 1 ∧ v.category = 1 then a_nx (pc + 1) ls (u :: v :: u :: v :: r) w else none
  | _ => none
noncomputable def a_tsw (dflt lo hi : Int) (offs : Array Int) (pc : Nat) (ls : AL) (st : List Value) (w : AW) : Option AN := match st with
  | .int x :: r => if x.toInt < lo ∨ hi < x.toInt then a_to pc dflt ls r w else match offs[(x.toInt - lo).toNat]? with
    | some off => a_to pc off ls r w
    | none => none
  | _ => none
noncomputable def a_lsw (dflt : Int) (ps : Array (Int × Int)) (pc : Nat) (ls : AL) (st : List Value) (w : AW) : Option AN := match st with
  | .int x :: r => if (ps.toList.zip (ps.toList.drop 1)).all (fun (a, next) => a.1 < next.1) = true then a_to pc (Op.lookupswitch.offset ps.toList dflt x.toInt) ls r w else none
  | _ => none
noncomputable def a_fit (ty : FieldType) (v : Value) : Bool := match ty, v with
  | .int, .int _ => true
  | .array _, .ref _ => true
  | .object _, .ref _ => true
  | _, _ => false
noncomputable def a_get (c x pc : Nat) (ls : AL) (st : List Value) (w : AW) : Option AN := match st with
  | .ref a :: r => match a_lk (kF c) x with
    | some (ci, f) => match w[a]? with
      | some (.inr (cj, fs)) => if ci = cj then (match fs[f]? with
        | some v => a_nx (pc + 3) ls (v :: r) w
        | none => none) else none
      | _ => none
    | none => none
  | _ => none
noncomputable def a_put (k x pc : Nat) (ls : AL) (st : List Value) (w : AW) : Option AN := match st with
  | v :: .ref a :: r => match a_lk (kF (mK k)) x with
    | some (ci, f) => match w[a]? with
      | some (.inr (cj, fs)) => if (ci = cj ∧ f < fs.length) ∧ (a_fit (YF ci f) v = true ∧ ((TF ci f).2.2.2 = false ∨ (mD k = 2 ∧ mK k = ci))) then a_nx (pc + 3) ls r (w.set a (.inr (cj, fs.set f v))) else none
      | _ => none
    | none => none
  | _ => none
noncomputable def a_ild (t : Nat) (sc : List Int32) (pc : Nat) (ls : AL) (st : List Value) (w : AW) : Option AN := match st with
  | .int i :: .ref a :: r => if 0 ≤ i then (if a = a_SC ∧ t = 0 then (match sc[i.toNatClampNeg]? with
      | some x => a_nx (pc + 1) ls (.int x :: r) w
      | none => none) else match w[a]? with
      | some (.inl (u, .inl l)) => if u = t then (match l[i.toNatClampNeg]? with
        | some x => a_nx (pc + 1) ls (.int x :: r) w
        | none => none) else none
      | _ => none) else none
  | _ => none
noncomputable def a_lld (pc : Nat) (ls : AL) (st : List Value) (w : AW) : Option AN := match st with
  | .int i :: .ref a :: r => if 0 ≤ i then (match w[a]? with
      | some (.inl (u, .inr l)) => if u = 2 then (match l[i.toNatClampNeg]? with
        | some x => a_nx (pc + 1) ls (.long x :: r) w
        | none => none) else none
      | _ => none) else none
  | _ => none
noncomputable def a_ist (pc : Nat) (ls : AL) (st : List Value) (w : AW) : Option AN := match st with
  | .int x :: .int i :: .ref a :: r => if 0 ≤ i then (match w[a]? with
      | some (.inl (u, .inl l)) => if u = 0 ∧ i.toNatClampNeg < l.length then a_nx (pc + 1) ls r (w.set a (.inl (u, .inl (l.set i.toNatClampNeg x)))) else none
      | _ => none) else none
  | _ => none
noncomputable def a_bst (pc : Nat) (ls : AL) (st : List Value) (w : AW) : Option AN := match st with
  | .int x :: .int i :: .ref a :: r => if 0 ≤ i then (match w[a]? with
      | some (.inl (u, .inl l)) => if u = 1 ∧ i.toNatClampNeg < l.length then a_nx (pc + 1) ls r (w.set a (.inl (u, .inl (l.set i.toNatClampNeg x.toInt8.toInt32)))) else none
      | _ => none) else none
  | _ => none
noncomputable def a_lst (pc : Nat) (ls : AL) (st : List Value) (w : AW) : Option AN := match st with
  | .long x :: .int i :: .ref a :: r => if 0 ≤ i then (match w[a]? with
      | some (.inl (u, .inr l)) => if u = 2 ∧ i.toNatClampNeg < l.length then a_nx (pc + 1) ls r (w.set a (.inl (u, .inr (l.set i.toNatClampNeg x)))) else none
      | _ => none) else none
  | _ => none
noncomputable def a_aln (sc : List Int32) (pc : Nat) (ls : AL) (st : List Value) (w : AW) : Option AN := match st with
  | .ref a :: r => if a = a_SC then a_nx (pc + 1) ls (.int (Int32.ofNat sc.length) :: r) w else match w[a]? with
      | some (.inl (u, .inl l)) => if u < 2 then a_nx (pc + 1) ls (.int (Int32.ofNat l.length) :: r) w else none
      | some (.inl (u, .inr l)) => if u = 2 then a_nx (pc + 1) ls (.int (Int32.ofNat l.length) :: r) w else none
      | _ => none
  | _ => none
noncomputable def a_def (c : Nat) : List Value := (List.range (NF c)).map (fun j => defaultValue (YF c j))
/-- a place where the class throws an exception of its own: new, dup, ldc_w, invokespecial, athrow -/
noncomputable def a_thr (k pc v : Nat) : Bool := Nat.beq (mK k) 7 && (match mLk k (pc + 3), mLk k (pc + 4), mLk k (pc + 7), mLk k (pc + 10) with
  | some (.dup, 1), some (.ldc_w x, 3), some (.invokespecial y, 3), some (.athrow, 1) => (match a_lk (kS 7) x with
    | some i => Nat.blt i sN
    | none => false) && (bif Nat.beq v 100 then Nat.beq y 340 else Nat.beq y 347)
  | _, _, _, _ => false)
noncomputable def a_new (k x pc : Nat) (ls : AL) (st : List Value) (w : AW) : Option AN := match a_lk (kX (mK k)) x with
  | some v => if v < 9 ∧ w.length < a_SC then some (pc + 3, ls, .ref w.length :: st, w ++ [.inr (v, a_def v)], 1, NF v) else none
  | none => none
noncomputable def a_thx (d k x pc : Nat) (st : List Value) : Option AO := match a_lk (kX (mK k)) x with
  | some v => if (v = 100 ∨ v = 101) ∧ (6 ≤ d ∧ (a_cat st ≤ 8 ∧ (a_thr k pc v = true ∧ mH k = []))) then some (.inr v, 1, 6) else none
  | none => none
noncomputable def a_nwa (ty : ArrayType) (pc : Nat) (ls : AL) (st : List Value) (w : AW) : Option AN := match st with
  | .int n :: r => if (0 ≤ n ∧ n.toNatClampNeg ≤ 10000) ∧ w.length < a_SC then (match ty with
    | .int => some (pc + 2, ls, .ref w.length :: r, w ++ [.inl (0, .inl (List.replicate n.toNatClampNeg 0))], 1, n.toNatClampNeg)
    | .byte => some (pc + 2, ls, .ref w.length :: r, w ++ [.inl (1, .inl (List.replicate n.toNatClampNeg 0))], 1, n.toNatClampNeg)
    | .long => some (pc + 2, ls, .ref w.length :: r, w ++ [.inl (2, .inr (List.replicate n.toNatClampNeg 0))], 1, n.toNatClampNeg)
    | _ => none) else none
  | _ => none
noncomputable def a_ret (k : Nat) (i : Instr) (st : List Value) : Option AO := match i, st, mR k with
  | .ireturn, [.int v], some .int => some (.inl (some (.int v)), 0, 0)
  | .ireturn, [.int v], some .boolean => if v = 0 ∨ v = 1 then some (.inl (some (.int v)), 0, 0) else none
  | .lreturn, [.long v], some .long => some (.inl (some (.long v)), 0, 0)
  | .return_, [], none => some (.inl none, 0, 0)
  | _, _, _ => none
/-- a call of an object's method, of a constructor (kind 2) -/
noncomputable def a_cv (kd j : Nat) (st : List Value) (w : AW) : Option AC := match st.drop (mV j) with
  | .ref a :: r => (match w[a]? with
    | some (.inr (cj, _)) => if (cj = mK j ∧ mD j = kd) ∧ (j + 1 < mN ∧ (mH j = [] ∧ (a_cat r ≤ 8 ∧ a_cat (.ref a :: (st.take (mV j)).reverse) ≤ mX j))) then some (j, .ref a :: (st.take (mV j)).reverse, r) else none
    | _ => none)
  | _ => none
noncomputable def a_cs (j : Nat) (st : List Value) : Option AC :=
  if (mV j ≤ st.length ∧ mD j = 1) ∧ (j + 1 < mN ∧ (a_cat (st.drop (mV j)) ≤ 8 ∧ a_cat (st.take (mV j)).reverse ≤ mX j)) then some (j, (st.take (mV j)).reverse, st.drop (mV j)) else none
noncomputable def a_sln (d pc : Nat) (ls : AL) (st : List Value) (w : AW) : Option AN := match st with
  | .ref a :: r => if (6 ≤ d ∧ a_cat r ≤ 8) ∧ (a_SB ≤ a ∧ a - a_SB < sN) then a_nx (pc + 3) ls (.int (Int32.ofNat (sB (a - a_SB)).length) :: r) w else none
  | _ => none
noncomputable def a_sch (d pc : Nat) (ls : AL) (st : List Value) (w : AW) : Option AN := match st with
  | .int i :: .ref a :: r => if (6 ≤ d ∧ a_cat r ≤ 8) ∧ ((a_SB ≤ a ∧ a - a_SB < sN) ∧ 0 ≤ i) then (match (sB (a - a_SB))[i.toNatClampNeg]? with
    | some x => a_nx (pc + 3) ls (.int x :: r) w
    | none => none) else none
  | _ => none
noncomputable def a_mth (d : Nat) (f : Int32 → Int32 → Int32) (pc : Nat) (ls : AL) (st : List Value) (w : AW) : Option AN := match st with
  | .int y :: .int x :: r => if 1 ≤ d ∧ a_cat r ≤ 8 then a_nx (pc + 3) ls (.int (f x y) :: r) w else none
  | _ => none
noncomputable def a_abs (d pc : Nat) (ls : AL) (st : List Value) (w : AW) : Option AN := match st with
  | .int x :: r => if 1 ≤ d ∧ a_cat r ≤ 8 then a_nx (pc + 3) ls (.int (if 0 ≤ x then x else 0 - x) :: r) w else none
  | _ => none
noncomputable def a_cpl (f g : List Int32) (sp dp n : Nat) : List Int32 := g.take dp ++ ((f.drop sp).take n ++ g.drop (dp + n))
noncomputable def a_cpy (d pc : Nat) (ls : AL) (st : List Value) (w : AW) : Option AN := match st with
  | .int n :: .int dp :: .ref a :: .int sp :: .ref a0 :: r => if (1 ≤ d ∧ a_cat r ≤ 8) ∧ (0 ≤ n ∧ (0 ≤ dp ∧ 0 ≤ sp)) then (match w[a]?, w[a0]? with
    | some (.inl (u, .inl g)), some (.inl (u0, .inl f)) => if (u = 0 ∧ u0 = 0) ∧ (sp.toNatClampNeg + n.toNatClampNeg ≤ f.length ∧ dp.toNatClampNeg + n.toNatClampNeg ≤ g.length) then
        a_nx (pc + 3) ls r (w.set a (.inl (u, .inl (a_cpl f g sp.toNatClampNeg dp.toNatClampNeg n.toNatClampNeg)))) else none
    | _, _ => none) else none
  | _ => none
noncomputable def a_obj (d pc : Nat) (ls : AL) (st : List Value) (w : AW) : Option AN := match st with
  | .ref _ :: r => if 1 ≤ d ∧ a_cat r ≤ 8 then a_nx (pc + 3) ls r w else none
  | _ => none
noncomputable def a_inv (d k x pc : Nat) (ls : AL) (st : List Value) (w : AW) : Option AN := match a_lk (kM (mK k)) x with
  | some (7, _) => a_sln d pc ls st w
  | some (8, _) => a_sch d pc ls st w
  | _ => none
noncomputable def a_ins (d k x pc : Nat) (ls : AL) (st : List Value) (w : AW) : Option AN := match a_lk (kM (mK k)) x with
  | some (3, _) => a_mth d (fun x y => if x < y then y else x) pc ls st w
  | some (4, _) => a_mth d (fun x y => if y < x then y else x) pc ls st w
  | some (5, _) => a_abs d pc ls st w
  | some (6, _) => a_cpy d pc ls st w
  | _ => none
noncomputable def a_inp (d k x pc : Nat) (ls : AL) (st : List Value) (w : AW) : Option AN := match a_lk (kM (mK k)) x with
  | some (2, _) => a_obj d pc ls st w
  | _ => none
noncomputable def ins (sc : List Int32) (d k pc : Nat) (ls : AL) (st : List Value) (w : AW) (i : Instr) : Option AN := match i with
  | .iconst n => a_nx (pc + 1) ls (.int (Int32.ofInt n) :: st) w
  | .bipush n => a_nx (pc + 2) ls (.int (Int8.ofInt n).toInt32 :: st) w
  | .sipush n => a_nx (pc + 3) ls (.int (Int16.ofInt n).toInt32 :: st) w
  | .lconst n => a_nx (pc + 1) ls (.long (Int64.ofNat (n : Nat)) :: st) w
  | .ldc x => a_ldc (mK k) x (pc + 2) ls st w
  | .ldc_w x => a_ldc (mK k) x (pc + 3) ls st w
  | .ldc2_w x => a_ldc2 (mK k) x (pc + 3) ls st w
  | .iload i => a_ldI (a_lk ls i) (pc + 2) ls st w
  | .iload_n n => a_ldI (a_lk ls (n : Nat)) (pc + 1) ls st w
  | .lload i => a_ldL (a_lk ls i) (pc + 2) ls st w
  | .lload_n n => a_ldL (a_lk ls (n : Nat)) (pc + 1) ls st w
  | .aload i => a_ldA (a_lk ls i) (pc + 2) ls st w
  | .aload_n n => a_ldA (a_lk ls (n : Nat)) (pc + 1) ls st w
  | .istore i => a_stI (mX k) i (pc + 2) ls st w
  | .istore_n n => a_stI (mX k) (n : Nat) (pc + 1) ls st w
  | .lstore i => a_stL (mX k) i (pc + 2) ls st w
  | .lstore_n n => a_stL (mX k) (n : Nat) (pc + 1) ls st w
  | .astore i => a_stA (mX k) i (pc + 2) ls st w
  | .astore_n n => a_stA (mX k) (n : Nat) (pc + 1) ls st w
  | .iinc i c => a_inc (mX k) i c pc ls st w
  | .iadd => a_i2 (fun x y => x + y) pc ls st w
  | .isub => a_i2 (fun x y => x - y) pc ls st w
  | .imul => a_i2 (fun x y => x * y) pc ls st w
  | .iand => a_i2 (fun x y => x &&& y) pc ls st w
  | .ior => a_i2 (fun x y => x ||| y) pc ls st w
  | .ixor => a_i2 (fun x y => x ^^^ y) pc ls st w
  | .ishl => a_i2 (fun x y => x <<< (y &&& 31)) pc ls st w
  | .ishr => a_i2 (fun x y => x >>> (y &&& 31)) pc ls st w
  | .iushr => a_i2 (fun x y => (x.toUInt32 >>> (y.toUInt32 &&& Int32.toUInt32 31)).toInt32) pc ls st w
  | .idiv => a_i2z (fun x y => x / y) pc ls st w
  | .irem => a_i2z (fun x y => x - x / y * y) pc ls st w
  | .ineg => a_i1 (fun x => -x) pc ls st w
  | .i2b => a_i1 (fun x => x.toInt8.toInt32) pc ls st w
  | .i2l => a_i2l pc ls st w
  | .ladd => a_l2 (fun x y => x + y) pc ls st w
  | .lmul => a_l2 (fun x y => x * y) pc ls st w
  | .ldiv => a_l2z (fun x y => x / y) pc ls st w
  | .lrem => a_l2z (fun x y => x - x / y * y) pc ls st w
  | .lcmp => a_lcmp pc ls st w
  | .dup => a_dup pc ls st w
  | .dup2 => a_dup2 pc ls st w
  | .pop => a_pop pc ls st w
  | .goto off => a_to pc off ls st w
  | .ifCond .eq off => (match st with | .int x :: r => a_jmp (x = 0) pc off ls r w | _ => none)
  | .ifCond .ne off => (match st with | .int x :: r => a_jmp (¬ x = 0) pc off ls r w | _ => none)
  | .ifCond .lt off => (match st with | .int x :: r => a_jmp (x < 0) pc off ls r w | _ => none)
  | .ifCond .ge off => (match st with | .int x :: r => a_jmp (0 ≤ x) pc off ls r w | _ => none)
  | .ifCond .gt off => (match st with | .int x :: r => a_jmp (0 < x) pc off ls r w | _ => none)
  | .ifCond .le off => (match st with | .int x :: r => a_jmp (x ≤ 0) pc off ls r w | _ => none)
  | .if_icmp .eq off => (match st with | .int y :: .int x :: r => a_jmp (x = y) pc off ls r w | _ => none)
  | .if_icmp .ne off => (match st with | .int y :: .int x :: r => a_jmp (¬ x = y) pc off ls r w | _ => none)
  | .if_icmp .lt off => (match st with | .int y :: .int x :: r => a_jmp (x < y) pc off ls r w | _ => none)
  | .if_icmp .ge off => (match st with | .int y :: .int x :: r => a_jmp (y ≤ x) pc off ls r w | _ => none)
  | .if_icmp .gt off => (match st with | .int y :: .int x :: r => a_jmp (y < x) pc off ls r w | _ => none)
  | .if_icmp .le off => (match st with | .int y :: .int x :: r => a_jmp (x ≤ y) pc off ls r w | _ => none)
  | .tableswitch dflt lo hi offs => a_tsw dflt lo hi offs pc ls st w
  | .lookupswitch dflt ps => a_lsw dflt ps pc ls st w
  | .getfield x => a_get (mK k) x pc ls st w
  | .putfield x => a_put k x pc ls st w
  | .iaload => a_ild 0 sc pc ls st w
  | .baload => a_ild 1 sc pc ls st w
  | .laload => a_lld pc ls st w
  | .iastore => a_ist pc ls st w
  | .bastore => a_bst pc ls st w
  | .lastore => a_lst pc ls st w
  | .arraylength => a_aln sc pc ls st w
  | .new x => a_new k x pc ls st w
  | .newarray ty => a_nwa ty pc ls st w
  | .invokevirtual x => a_inv d k x pc ls st w
  | .invokestatic x => a_ins d k x pc ls st w
  | .invokespecial x => a_inp d k x pc ls st w
  | _ => none
/-- the end of a method: it answers, or throws -/
noncomputable def fin (d k pc : Nat) (st : List Value) (i : Instr) : Option AO := match i with
  | .ireturn => a_ret k .ireturn st
  | .lreturn => a_ret k .lreturn st
  | .return_ => a_ret k .return_ st
  | .new x => a_thx d k x pc st
  | _ => none
/-- a call -/
noncomputable def cal (k : Nat) (st : List Value) (w : AW) (i : Instr) : Option AC := match i with
  | .invokevirtual x => (match a_lk (kM (mK k)) x with
    | some (0, j) => a_cv 0 j st w
    | _ => none)
  | .invokestatic x => (match a_lk (kM (mK k)) x with
    | some (0, j) => a_cs j st
    | _ => none)
  | .invokespecial x => (match a_lk (kM (mK k)) x with
    | some (0, j) => a_cv 2 j st w
    | some (1, j) => a_cv 2 j st w
    | _ => none)
  | _ => none
/-- a handler of the law's own: astore, iconst, ireturn -/
noncomputable def a_hc (k h : Nat) : Option Int32 := match mR k with
  | some .int => (match mLk k h with
    | some (.astore_n n, 1) => if (n : Nat) < mX k then (match mLk k (h + 1), mLk k (h + 2) with
      | some (.iconst v, 1), some (.ireturn, 1) => some (Int32.ofInt v)
      | _, _ => none) else none
    | some (.astore n, 2) => if n < mX k then (match mLk k (h + 2), mLk k (h + 3) with
      | some (.iconst v, 1), some (.ireturn, 1) => some (Int32.ofInt v)
      | _, _ => none) else none
    | _ => none)
  | _ => none
noncomputable def a_hnd (k pc v : Nat) : Option Int32 := if v = 100 ∨ v = 101 then (match mH k with
  | [(f, t, h, ct)] => if (f ≤ pc ∧ pc < t) ∧ (ct ≠ 0 ∧ a_lk (kX (mK k)) ct = some v) then a_hc k h else none
  | [(f, t, h, ct), (f2, t2, h2, ct2)] => if (f ≤ pc ∧ pc < t) ∧ (ct ≠ 0 ∧ a_lk (kX (mK k)) ct = some v) then a_hc k h
      else if ((v = 101 ∧ ct ≠ 0) ∧ a_lk (kX (mK k)) ct = some 100) ∧ ((f2 ≤ pc ∧ pc < t2) ∧ (ct2 ≠ 0 ∧ a_lk (kX (mK k)) ct2 = some v)) then a_hc k h2 else none
  | _ => none) else none
/-- what a frame does with the answer of a call (it goes on by 'go') -/
noncomputable def a_bk (k pc j : Nat) (rest : List Value) (nc ns : Nat) (go : List Value → AW → Nat → Nat → Option AR) : Option AR → Option AR
  | none => none
  | some (.inl v, w, a, b) => go (v.toList ++ rest) w (nc + a) (ns + b)
  | some (.inr v, w, a, b) => if mD j = 0 then (match mH k with
    | [] => some (.inr v, w, nc + a, ns + b)
    | _ :: _ => match a_hnd k pc v with
      | some z => some (.inl (some (.int z)), w, nc + a, ns + b)
      | none => none) else none
noncomputable def ev (sc : List Int32) : Nat → Nat → Nat → Nat → AL → List Value → AW → Nat → Nat → Option AR
  | 0, _, _, _, _, _, _, _, _ => none
  | n + 1, d, k, pc, ls, st, w, nc, ns => match mLk k pc with
    | none => none
    | some (i, _) => match ins sc d k pc ls st w i with
      | some (pc', ls', st', w', a, b) => ev sc n d k pc' ls' st' w' (nc + a) (ns + b)
      | none => match fin d k pc st i with
        | some (o, a, b) => some (o, w, nc + a, ns + b)
        | none => match cal k st w i with
          | some (j, ags, rest) => (match d with
            | 0 => none
            | d' + 1 => a_bk k pc j rest nc ns (fun st' w' a b => ev sc n d k (pc + 3) ls st' w' a b) (ev sc n d' j 0 (lv_args 0 ags) [] w 0 0))
          | none => none
