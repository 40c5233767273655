/-! ===== the code of the methods, decoded ===== -/
noncomputable def Bs (b : ByteArray) (p : Nat) (l : List UInt8) : Prop := b.data.toList.drop p = l
theorem bs_n {b : ByteArray} {p : Nat} {l : List UInt8} (h : Bs b p l) (n : Nat) : Bs b (p + n) (l.drop n) := by
  unfold Bs at h ⊢
  rw [← h, List.drop_drop]
theorem bs_t {b : ByteArray} {p : Nat} {x : UInt8} {t : List UInt8} (h : Bs b p (x :: t)) : Bs b (p + 1) t := bs_n h 1
abbrev DR : Type → Type := Jvm.ClassFile.Decoder
theorem rd_1 {b : ByteArray} {p : Nat} {x : UInt8} {t : List UInt8} (h : Bs b p (x :: t)) : (Jvm.ClassFile.Reader.u1 : DR Nat) b p = .ok (x.toNat, p + 1) := by
  have h1 : b.data.toList[p]? = some x := by
    have h2 : (b.data.toList.drop p)[0]? = some x := by
      unfold Bs at h
      rw [h]; rfl
    rw [List.getElem?_drop] at h2
    exact h2
  obtain ⟨hp, hx⟩ := List.getElem?_eq_some_iff.mp h1
  have hs : p < b.size := hp
  show (dite (p < b.size) (fun h => ((set (p + 1) >>= fun _ => pure b[p].toNat : DR Nat))) (fun _ => throw (Jvm.ClassFile.HasTruncated.truncated p)) : DR Nat) b p = _
  rw [dif_pos hs]
  have hb : b[p] = x := hx
  show Except.ok (b[p].toNat, p + 1) = _
  rw [hb]
theorem rd_2 {b : ByteArray} {p : Nat} {x y : UInt8} {t : List UInt8} (h : Bs b p (x :: y :: t)) : (Jvm.ClassFile.Reader.u2 : DR Nat) b p = .ok (x.toNat * 256 + y.toNat, p + 2) := by
  show Except.bind ((Jvm.ClassFile.Reader.u1 : DR Nat) b p) (fun q => Except.bind ((Jvm.ClassFile.Reader.u1 : DR Nat) b q.2) (fun r => .ok (q.1 * 256 + r.1, r.2))) = _
  rw [rd_1 h]
  show Except.bind ((Jvm.ClassFile.Reader.u1 : DR Nat) b (p + 1)) (fun r => .ok (x.toNat * 256 + r.1, r.2)) = _
  rw [rd_1 (bs_t h)]
  rfl
theorem rd_s1 {b : ByteArray} {p : Nat} {x : UInt8} {t : List UInt8} (h : Bs b p (x :: t)) : (Jvm.ClassFile.Reader.s1 : DR Int) b p = .ok (Jvm.ClassFile.Reader.signed 8 x.toNat, p + 1) := by
  show Except.bind ((Jvm.ClassFile.Reader.u1 : DR Nat) b p) (fun q => .ok (Jvm.ClassFile.Reader.signed 8 q.1, q.2)) = _
  rw [rd_1 h]
  rfl
theorem rd_s2 {b : ByteArray} {p : Nat} {x y : UInt8} {t : List UInt8} (h : Bs b p (x :: y :: t)) : (Jvm.ClassFile.Reader.s2 : DR Int) b p = .ok (Jvm.ClassFile.Reader.signed 16 (x.toNat * 256 + y.toNat), p + 2) := by
  show Except.bind ((Jvm.ClassFile.Reader.u2 : DR Nat) b p) (fun q => .ok (Jvm.ClassFile.Reader.signed 16 q.1, q.2)) = _
  rw [rd_2 h]
  rfl
theorem dc_ok {b : ByteArray} {p n q : Nat} {i : Instr} (h : (Jvm.ClassFile.Decoder.instr p) b p = .ok (i, q)) (hq : q = p + n) : decode b p = .ok (i, n) := by
  show Except.bind ((Jvm.ClassFile.Decoder.instr p) b p) (fun q => .ok (q.1, q.2 - p)) = _
  rw [h, hq]
  show Except.ok (i, p + n - p) = _
  rw [Nat.add_sub_cancel_left]
/-- what an opcode's row says -/
noncomputable def Sop (op : Nat) (g : List UInt8 → Option (Instr × Nat)) : Prop := ∀ (b : ByteArray) (p : Nat) (x : UInt8) (t : List UInt8) (i : Instr) (n : Nat), x.toNat = op → Bs b p (x :: t) → g t = some (i, n) → decode b p = .ok (i, n)
noncomputable def Fop (op : Nat) (r : DR Instr) : Prop := ∀ p : Nat, ∃ f : Nat → DR Instr, Jvm.ClassFile.Decoder.instr p = (Jvm.ClassFile.Reader.u1 : DR Nat) >>= f ∧ f op = r
theorem fop_run {op : Nat} {r : DR Instr} (hf : Fop op r) {b : ByteArray} {p : Nat} {x : UInt8} {t : List UInt8} (hx : x.toNat = op) (h : Bs b p (x :: t)) : (Jvm.ClassFile.Decoder.instr p) b p = r b (p + 1) := by
  obtain ⟨f, h1, h2⟩ := hf p
  rw [h1]
  show Except.bind ((Jvm.ClassFile.Reader.u1 : DR Nat) b p) (fun q => f q.1 b q.2) = _
  rw [rd_1 h]
  show f x.toNat b (p + 1) = _
  rw [hx, h2]
noncomputable def g0 (i : Instr) (_ : List UInt8) : Option (Instr × Nat) := some (i, 1)
noncomputable def g1 (C : Nat → Instr) : List UInt8 → Option (Instr × Nat)
  | x :: _ => some (C x.toNat, 2)
  | _ => none
noncomputable def gs1 (C : Int → Instr) : List UInt8 → Option (Instr × Nat)
  | x :: _ => some (C (Jvm.ClassFile.Reader.signed 8 x.toNat), 2)
  | _ => none
noncomputable def g2 (C : Nat → Instr) : List UInt8 → Option (Instr × Nat)
  | x :: y :: _ => some (C (x.toNat * 256 + y.toNat), 3)
  | _ => none
noncomputable def gs2 (C : Int → Instr) : List UInt8 → Option (Instr × Nat)
  | x :: y :: _ => some (C (Jvm.ClassFile.Reader.signed 16 (x.toNat * 256 + y.toNat)), 3)
  | _ => none
noncomputable def gii (C : Nat → Int → Instr) : List UInt8 → Option (Instr × Nat)
  | x :: y :: _ => some (C x.toNat (Jvm.ClassFile.Reader.signed 8 y.toNat), 3)
  | _ => none
theorem s_g0 {op : Nat} {i : Instr} (hf : Fop op (pure i)) : Sop op (g0 i) := by
  intro b p x t j n hx h hg
  have e := Option.some.inj hg
  have e1 : i = j := congrArg Prod.fst e
  have e2 : 1 = n := congrArg Prod.snd e
  refine dc_ok (q := p + 1) ?_ (by rw [e2])
  rw [fop_run hf hx h, ← e1]
  rfl
theorem s_g1 {op : Nat} {C : Nat → Instr} (hf : Fop op ((Jvm.ClassFile.Reader.u1 : DR Nat) >>= fun v => pure (C v))) : Sop op (g1 C) := by
  intro b p x t j n hx h hg
  cases t with
  | nil => cases hg
  | cons y t =>
    have e := Option.some.inj hg
    have e1 : C y.toNat = j := congrArg Prod.fst e
    have e2 : 2 = n := congrArg Prod.snd e
    refine dc_ok (q := p + 1 + 1) ?_ (by rw [← e2])
    rw [fop_run hf hx h, ← e1]
    show Except.bind ((Jvm.ClassFile.Reader.u1 : DR Nat) b (p + 1)) (fun q => .ok (C q.1, q.2)) = _
    rw [rd_1 (bs_t h)]
    rfl
theorem s_gs1 {op : Nat} {C : Int → Instr} (hf : Fop op ((Jvm.ClassFile.Reader.s1 : DR Int) >>= fun v => pure (C v))) : Sop op (gs1 C) := by
  intro b p x t j n hx h hg
  cases t with
  | nil => cases hg
  | cons y t =>
    have e := Option.some.inj hg
    have e1 : C (Jvm.ClassFile.Reader.signed 8 y.toNat) = j := congrArg Prod.fst e
    have e2 : 2 = n := congrArg Prod.snd e
    refine dc_ok (q := p + 1 + 1) ?_ (by rw [← e2])
    rw [fop_run hf hx h, ← e1]
    show Except.bind ((Jvm.ClassFile.Reader.s1 : DR Int) b (p + 1)) (fun q => .ok (C q.1, q.2)) = _
    rw [rd_s1 (bs_t h)]
    rfl
theorem s_g2 {op : Nat} {C : Nat → Instr} (hf : Fop op ((Jvm.ClassFile.Reader.u2 : DR Nat) >>= fun v => pure (C v))) : Sop op (g2 C) := by
  intro b p x t j n hx h hg
  match t, h, hg with
  | y :: z :: t, h, hg =>
    have e := Option.some.inj hg
    have e1 : C (y.toNat * 256 + z.toNat) = j := congrArg Prod.fst e
    have e2 : 3 = n := congrArg Prod.snd e
    refine dc_ok (q := p + 1 + 2) ?_ (by rw [← e2])
    rw [fop_run hf hx h, ← e1]
    show Except.bind ((Jvm.ClassFile.Reader.u2 : DR Nat) b (p + 1)) (fun q => .ok (C q.1, q.2)) = _
    rw [rd_2 (bs_t h)]
    rfl
theorem s_gs2 {op : Nat} {C : Int → Instr} (hf : Fop op ((Jvm.ClassFile.Reader.s2 : DR Int) >>= fun v => pure (C v))) : Sop op (gs2 C) := by
  intro b p x t j n hx h hg
  match t, h, hg with
  | y :: z :: t, h, hg =>
    have e := Option.some.inj hg
    have e1 : C (Jvm.ClassFile.Reader.signed 16 (y.toNat * 256 + z.toNat)) = j := congrArg Prod.fst e
    have e2 : 3 = n := congrArg Prod.snd e
    refine dc_ok (q := p + 1 + 2) ?_ (by rw [← e2])
    rw [fop_run hf hx h, ← e1]
    show Except.bind ((Jvm.ClassFile.Reader.s2 : DR Int) b (p + 1)) (fun q => .ok (C q.1, q.2)) = _
    rw [rd_s2 (bs_t h)]
    rfl
theorem s_gii {op : Nat} {C : Nat → Int → Instr} (hf : Fop op ((Jvm.ClassFile.Reader.u1 : DR Nat) >>= fun v => (Jvm.ClassFile.Reader.s1 : DR Int) >>= fun w => pure (C v w))) : Sop op (gii C) := by
  intro b p x t j n hx h hg
  match t, h, hg with
  | y :: z :: t, h, hg =>
    have e := Option.some.inj hg
    have e1 : C y.toNat (Jvm.ClassFile.Reader.signed 8 z.toNat) = j := congrArg Prod.fst e
    have e2 : 3 = n := congrArg Prod.snd e
    refine dc_ok (q := p + 1 + 1 + 1) ?_ (by rw [← e2])
    rw [fop_run hf hx h, ← e1]
    show Except.bind ((Jvm.ClassFile.Reader.u1 : DR Nat) b (p + 1)) (fun q => Except.bind ((Jvm.ClassFile.Reader.s1 : DR Int) b q.2) (fun r => .ok (C q.1 r.1, r.2))) = _
    rw [rd_1 (bs_t h)]
    show Except.bind ((Jvm.ClassFile.Reader.s1 : DR Int) b (p + 1 + 1)) (fun r => .ok (C y.toNat r.1, r.2)) = _
    rw [rd_s1 (bs_t (bs_t h))]
    rfl
set_option maxRecDepth 100000 in
theorem sop_42 : Sop 42 (g0 (.aload_n 0)) := s_g0 (fun _ => ⟨_, rfl, rfl⟩)
set_option maxRecDepth 100000 in
theorem sop_180 : Sop 180 (g2 (fun v => .getfield v)) := s_g2 (fun _ => ⟨_, rfl, rfl⟩)
set_option maxRecDepth 100000 in
theorem sop_182 : Sop 182 (g2 (fun v => .invokevirtual v)) := s_g2 (fun _ => ⟨_, rfl, rfl⟩)
set_option maxRecDepth 100000 in
theorem sop_21 : Sop 21 (g1 (fun v => .iload v)) := s_g1 (fun _ => ⟨_, rfl, rfl⟩)
set_option maxRecDepth 100000 in
theorem sop_3 : Sop 3 (g0 (.iconst 0)) := s_g0 (fun _ => ⟨_, rfl, rfl⟩)
set_option maxRecDepth 100000 in
theorem sop_27 : Sop 27 (g0 (.iload_n 1)) := s_g0 (fun _ => ⟨_, rfl, rfl⟩)
set_option maxRecDepth 100000 in
theorem sop_167 : Sop 167 (gs2 (fun v => .goto v)) := s_gs2 (fun _ => ⟨_, rfl, rfl⟩)
set_option maxRecDepth 100000 in
theorem sop_4 : Sop 4 (g0 (.iconst 1)) := s_g0 (fun _ => ⟨_, rfl, rfl⟩)
set_option maxRecDepth 100000 in
theorem sop_172 : Sop 172 (g0 (.ireturn)) := s_g0 (fun _ => ⟨_, rfl, rfl⟩)
set_option maxRecDepth 100000 in
theorem sop_28 : Sop 28 (g0 (.iload_n 2)) := s_g0 (fun _ => ⟨_, rfl, rfl⟩)
set_option maxRecDepth 100000 in
theorem sop_96 : Sop 96 (g0 (.iadd)) := s_g0 (fun _ => ⟨_, rfl, rfl⟩)
set_option maxRecDepth 100000 in
theorem sop_46 : Sop 46 (g0 (.iaload)) := s_g0 (fun _ => ⟨_, rfl, rfl⟩)
set_option maxRecDepth 100000 in
theorem sop_29 : Sop 29 (g0 (.iload_n 3)) := s_g0 (fun _ => ⟨_, rfl, rfl⟩)
set_option maxRecDepth 100000 in
theorem sop_16 : Sop 16 (gs1 (fun v => .bipush v)) := s_gs1 (fun _ => ⟨_, rfl, rfl⟩)
set_option maxRecDepth 100000 in
theorem sop_54 : Sop 54 (g1 (fun v => .istore v)) := s_g1 (fun _ => ⟨_, rfl, rfl⟩)
set_option maxRecDepth 100000 in
theorem sop_181 : Sop 181 (g2 (fun v => .putfield v)) := s_g2 (fun _ => ⟨_, rfl, rfl⟩)
set_option maxRecDepth 100000 in
theorem sop_184 : Sop 184 (g2 (fun v => .invokestatic v)) := s_g2 (fun _ => ⟨_, rfl, rfl⟩)
set_option maxRecDepth 100000 in
theorem sop_43 : Sop 43 (g0 (.aload_n 1)) := s_g0 (fun _ => ⟨_, rfl, rfl⟩)
set_option maxRecDepth 100000 in
theorem sop_153 : Sop 153 (gs2 (fun v => .ifCond .eq v)) := s_gs2 (fun _ => ⟨_, rfl, rfl⟩)
set_option maxRecDepth 100000 in
theorem sop_162 : Sop 162 (gs2 (fun v => .if_icmp .ge v)) := s_gs2 (fun _ => ⟨_, rfl, rfl⟩)
set_option maxRecDepth 100000 in
theorem sop_132 : Sop 132 (gii (fun v w => .iinc v w)) := s_gii (fun _ => ⟨_, rfl, rfl⟩)
set_option maxRecDepth 100000 in
theorem sop_160 : Sop 160 (gs2 (fun v => .if_icmp .ne v)) := s_gs2 (fun _ => ⟨_, rfl, rfl⟩)
set_option maxRecDepth 100000 in
theorem sop_154 : Sop 154 (gs2 (fun v => .ifCond .ne v)) := s_gs2 (fun _ => ⟨_, rfl, rfl⟩)
set_option maxRecDepth 100000 in
theorem sop_7 : Sop 7 (g0 (.iconst 4)) := s_g0 (fun _ => ⟨_, rfl, rfl⟩)
set_option maxRecDepth 100000 in
theorem sop_5 : Sop 5 (g0 (.iconst 2)) := s_g0 (fun _ => ⟨_, rfl, rfl⟩)
set_option maxRecDepth 100000 in
theorem sop_79 : Sop 79 (g0 (.iastore)) := s_g0 (fun _ => ⟨_, rfl, rfl⟩)
set_option maxRecDepth 100000 in
theorem sop_2 : Sop 2 (g0 (.iconst (-1))) := s_g0 (fun _ => ⟨_, rfl, rfl⟩)
set_option maxRecDepth 100000 in
theorem sop_100 : Sop 100 (g0 (.isub)) := s_g0 (fun _ => ⟨_, rfl, rfl⟩)
set_option maxRecDepth 100000 in
theorem sop_62 : Sop 62 (g0 (.istore_n 3)) := s_g0 (fun _ => ⟨_, rfl, rfl⟩)
set_option maxRecDepth 100000 in
theorem sop_17 : Sop 17 (gs2 (fun v => .sipush v)) := s_gs2 (fun _ => ⟨_, rfl, rfl⟩)
set_option maxRecDepth 100000 in
theorem sop_61 : Sop 61 (g0 (.istore_n 2)) := s_g0 (fun _ => ⟨_, rfl, rfl⟩)
set_option maxRecDepth 100000 in
theorem sop_177 : Sop 177 (g0 (.return_)) := s_g0 (fun _ => ⟨_, rfl, rfl⟩)
set_option maxRecDepth 100000 in
theorem sop_104 : Sop 104 (g0 (.imul)) := s_g0 (fun _ => ⟨_, rfl, rfl⟩)
set_option maxRecDepth 100000 in
theorem sop_44 : Sop 44 (g0 (.aload_n 2)) := s_g0 (fun _ => ⟨_, rfl, rfl⟩)
set_option maxRecDepth 100000 in
theorem sop_6 : Sop 6 (g0 (.iconst 3)) := s_g0 (fun _ => ⟨_, rfl, rfl⟩)
set_option maxRecDepth 100000 in
theorem sop_89 : Sop 89 (g0 (.dup)) := s_g0 (fun _ => ⟨_, rfl, rfl⟩)
set_option maxRecDepth 100000 in
theorem sop_159 : Sop 159 (gs2 (fun v => .if_icmp .eq v)) := s_gs2 (fun _ => ⟨_, rfl, rfl⟩)
set_option maxRecDepth 100000 in
theorem sop_60 : Sop 60 (g0 (.istore_n 1)) := s_g0 (fun _ => ⟨_, rfl, rfl⟩)
set_option maxRecDepth 100000 in
theorem sop_163 : Sop 163 (gs2 (fun v => .if_icmp .gt v)) := s_gs2 (fun _ => ⟨_, rfl, rfl⟩)
set_option maxRecDepth 100000 in
theorem sop_45 : Sop 45 (g0 (.aload_n 3)) := s_g0 (fun _ => ⟨_, rfl, rfl⟩)
set_option maxRecDepth 100000 in
theorem sop_26 : Sop 26 (g0 (.iload_n 0)) := s_g0 (fun _ => ⟨_, rfl, rfl⟩)
set_option maxRecDepth 100000 in
theorem sop_133 : Sop 133 (g0 (.i2l)) := s_g0 (fun _ => ⟨_, rfl, rfl⟩)
set_option maxRecDepth 100000 in
theorem sop_158 : Sop 158 (gs2 (fun v => .ifCond .le v)) := s_gs2 (fun _ => ⟨_, rfl, rfl⟩)
set_option maxRecDepth 100000 in
theorem sop_80 : Sop 80 (g0 (.lastore)) := s_g0 (fun _ => ⟨_, rfl, rfl⟩)
set_option maxRecDepth 100000 in
theorem sop_108 : Sop 108 (g0 (.idiv)) := s_g0 (fun _ => ⟨_, rfl, rfl⟩)
set_option maxRecDepth 100000 in
theorem sop_87 : Sop 87 (g0 (.pop)) := s_g0 (fun _ => ⟨_, rfl, rfl⟩)
set_option maxRecDepth 100000 in
theorem sop_18 : Sop 18 (g1 (fun v => .ldc v)) := s_g1 (fun _ => ⟨_, rfl, rfl⟩)
set_option maxRecDepth 100000 in
theorem sop_8 : Sop 8 (g0 (.iconst 5)) := s_g0 (fun _ => ⟨_, rfl, rfl⟩)
set_option maxRecDepth 100000 in
theorem sop_164 : Sop 164 (gs2 (fun v => .if_icmp .le v)) := s_gs2 (fun _ => ⟨_, rfl, rfl⟩)
set_option maxRecDepth 100000 in
theorem sop_58 : Sop 58 (g1 (fun v => .astore v)) := s_g1 (fun _ => ⟨_, rfl, rfl⟩)
set_option maxRecDepth 100000 in
theorem sop_161 : Sop 161 (gs2 (fun v => .if_icmp .lt v)) := s_gs2 (fun _ => ⟨_, rfl, rfl⟩)
set_option maxRecDepth 100000 in
theorem sop_126 : Sop 126 (g0 (.iand)) := s_g0 (fun _ => ⟨_, rfl, rfl⟩)
set_option maxRecDepth 100000 in
theorem sop_92 : Sop 92 (g0 (.dup2)) := s_g0 (fun _ => ⟨_, rfl, rfl⟩)
set_option maxRecDepth 100000 in
theorem sop_19 : Sop 19 (g2 (fun v => .ldc_w v)) := s_g2 (fun _ => ⟨_, rfl, rfl⟩)
set_option maxRecDepth 100000 in
theorem sop_183 : Sop 183 (g2 (fun v => .invokespecial v)) := s_g2 (fun _ => ⟨_, rfl, rfl⟩)
set_option maxRecDepth 100000 in
theorem sop_112 : Sop 112 (g0 (.irem)) := s_g0 (fun _ => ⟨_, rfl, rfl⟩)
set_option maxRecDepth 100000 in
theorem sop_22 : Sop 22 (g1 (fun v => .lload v)) := s_g1 (fun _ => ⟨_, rfl, rfl⟩)
set_option maxRecDepth 100000 in
theorem sop_55 : Sop 55 (g1 (fun v => .lstore v)) := s_g1 (fun _ => ⟨_, rfl, rfl⟩)
set_option maxRecDepth 100000 in
theorem sop_78 : Sop 78 (g0 (.astore_n 3)) := s_g0 (fun _ => ⟨_, rfl, rfl⟩)
set_option maxRecDepth 100000 in
theorem sop_120 : Sop 120 (g0 (.ishl)) := s_g0 (fun _ => ⟨_, rfl, rfl⟩)
set_option maxRecDepth 100000 in
theorem sop_187 : Sop 187 (g2 (fun v => .new v)) := s_g2 (fun _ => ⟨_, rfl, rfl⟩)
set_option maxRecDepth 100000 in
theorem sop_155 : Sop 155 (gs2 (fun v => .ifCond .lt v)) := s_gs2 (fun _ => ⟨_, rfl, rfl⟩)
set_option maxRecDepth 100000 in
theorem sop_122 : Sop 122 (g0 (.ishr)) := s_g0 (fun _ => ⟨_, rfl, rfl⟩)
set_option maxRecDepth 100000 in
theorem sop_51 : Sop 51 (g0 (.baload)) := s_g0 (fun _ => ⟨_, rfl, rfl⟩)
set_option maxRecDepth 100000 in
theorem sop_128 : Sop 128 (g0 (.ior)) := s_g0 (fun _ => ⟨_, rfl, rfl⟩)
set_option maxRecDepth 100000 in
theorem sop_25 : Sop 25 (g1 (fun v => .aload v)) := s_g1 (fun _ => ⟨_, rfl, rfl⟩)
set_option maxRecDepth 100000 in
theorem sop_9 : Sop 9 (g0 (.lconst 0)) := s_g0 (fun _ => ⟨_, rfl, rfl⟩)
set_option maxRecDepth 100000 in
theorem sop_130 : Sop 130 (g0 (.ixor)) := s_g0 (fun _ => ⟨_, rfl, rfl⟩)
set_option maxRecDepth 100000 in
theorem sop_105 : Sop 105 (g0 (.lmul)) := s_g0 (fun _ => ⟨_, rfl, rfl⟩)
set_option maxRecDepth 100000 in
theorem sop_32 : Sop 32 (g0 (.lload_n 2)) := s_g0 (fun _ => ⟨_, rfl, rfl⟩)
set_option maxRecDepth 100000 in
theorem sop_173 : Sop 173 (g0 (.lreturn)) := s_g0 (fun _ => ⟨_, rfl, rfl⟩)
set_option maxRecDepth 100000 in
theorem sop_10 : Sop 10 (g0 (.lconst 1)) := s_g0 (fun _ => ⟨_, rfl, rfl⟩)
set_option maxRecDepth 100000 in
theorem sop_148 : Sop 148 (g0 (.lcmp)) := s_g0 (fun _ => ⟨_, rfl, rfl⟩)
set_option maxRecDepth 100000 in
theorem sop_20 : Sop 20 (g2 (fun v => .ldc2_w v)) := s_g2 (fun _ => ⟨_, rfl, rfl⟩)
set_option maxRecDepth 100000 in
theorem sop_190 : Sop 190 (g0 (.arraylength)) := s_g0 (fun _ => ⟨_, rfl, rfl⟩)
set_option maxRecDepth 100000 in
theorem sop_65 : Sop 65 (g0 (.lstore_n 2)) := s_g0 (fun _ => ⟨_, rfl, rfl⟩)
set_option maxRecDepth 100000 in
theorem sop_109 : Sop 109 (g0 (.ldiv)) := s_g0 (fun _ => ⟨_, rfl, rfl⟩)
set_option maxRecDepth 100000 in
theorem sop_47 : Sop 47 (g0 (.laload)) := s_g0 (fun _ => ⟨_, rfl, rfl⟩)
set_option maxRecDepth 100000 in
theorem sop_156 : Sop 156 (gs2 (fun v => .ifCond .ge v)) := s_gs2 (fun _ => ⟨_, rfl, rfl⟩)
set_option maxRecDepth 100000 in
theorem sop_116 : Sop 116 (g0 (.ineg)) := s_g0 (fun _ => ⟨_, rfl, rfl⟩)
set_option maxRecDepth 100000 in
theorem sop_97 : Sop 97 (g0 (.ladd)) := s_g0 (fun _ => ⟨_, rfl, rfl⟩)
set_option maxRecDepth 100000 in
theorem sop_113 : Sop 113 (g0 (.lrem)) := s_g0 (fun _ => ⟨_, rfl, rfl⟩)
set_option maxRecDepth 100000 in
theorem sop_191 : Sop 191 (g0 (.athrow)) := s_g0 (fun _ => ⟨_, rfl, rfl⟩)
set_option maxRecDepth 100000 in
theorem sop_77 : Sop 77 (g0 (.astore_n 2)) := s_g0 (fun _ => ⟨_, rfl, rfl⟩)
set_option maxRecDepth 100000 in
theorem sop_157 : Sop 157 (gs2 (fun v => .ifCond .gt v)) := s_gs2 (fun _ => ⟨_, rfl, rfl⟩)
set_option maxRecDepth 100000 in
theorem sop_30 : Sop 30 (g0 (.lload_n 0)) := s_g0 (fun _ => ⟨_, rfl, rfl⟩)
set_option maxRecDepth 100000 in
theorem sop_145 : Sop 145 (g0 (.i2b)) := s_g0 (fun _ => ⟨_, rfl, rfl⟩)
set_option maxRecDepth 100000 in
theorem sop_84 : Sop 84 (g0 (.bastore)) := s_g0 (fun _ => ⟨_, rfl, rfl⟩)
set_option maxRecDepth 100000 in
theorem sop_124 : Sop 124 (g0 (.iushr)) := s_g0 (fun _ => ⟨_, rfl, rfl⟩)
set_option maxRecDepth 100000 in
theorem sop_76 : Sop 76 (g0 (.astore_n 1)) := s_g0 (fun _ => ⟨_, rfl, rfl⟩)
noncomputable def tb_op : List (Nat × (List UInt8 → Option (Instr × Nat))) := [(42, g0 (.aload_n 0)), (180, g2 (fun v => .getfield v)), (182, g2 (fun v => .invokevirtual v)), (21, g1 (fun v => .iload v)), (3, g0 (.iconst 0)), (27, g0 (.iload_n 1)), (167, gs2 (fun v => .goto v)), (4, g0 (.iconst 1)), (172, g0 (.ireturn)), (28, g0 (.iload_n 2)), (96, g0 (.iadd)), (46, g0 (.iaload)), (29, g0 (.iload_n 3)), (16, gs1 (fun v => .bipush v)), (54, g1 (fun v => .istore v)), (181, g2 (fun v => .putfield v)), (184, g2 (fun v => .invokestatic v)), (43, g0 (.aload_n 1)), (153, gs2 (fun v => .ifCond .eq v)), (162, gs2 (fun v => .if_icmp .ge v)), (132, gii (fun v w => .iinc v w)), (160, gs2 (fun v => .if_icmp .ne v)), (154, gs2 (fun v => .ifCond .ne v)), (7, g0 (.iconst 4)), (5, g0 (.iconst 2)), (79, g0 (.iastore)), (2, g0 (.iconst (-1))), (100, g0 (.isub)), (62, g0 (.istore_n 3)), (17, gs2 (fun v => .sipush v)), (61, g0 (.istore_n 2)), (177, g0 (.return_)), (104, g0 (.imul)), (44, g0 (.aload_n 2)), (6, g0 (.iconst 3)), (89, g0 (.dup)), (159, gs2 (fun v => .if_icmp .eq v)), (60, g0 (.istore_n 1)), (163, gs2 (fun v => .if_icmp .gt v)), (45, g0 (.aload_n 3)), (26, g0 (.iload_n 0)), (133, g0 (.i2l)), (158, gs2 (fun v => .ifCond .le v)), (80, g0 (.lastore)), (108, g0 (.idiv)), (87, g0 (.pop)), (18, g1 (fun v => .ldc v)), (8, g0 (.iconst 5)), (164, gs2 (fun v => .if_icmp .le v)), (58, g1 (fun v => .astore v)), (161, gs2 (fun v => .if_icmp .lt v)), (126, g0 (.iand)), (92, g0 (.dup2)), (19, g2 (fun v => .ldc_w v)), (183, g2 (fun v => .invokespecial v)), (112, g0 (.irem)), (22, g1 (fun v => .lload v)), (55, g1 (fun v => .lstore v)), (78, g0 (.astore_n 3)), (120, g0 (.ishl)), (187, g2 (fun v => .new v)), (155, gs2 (fun v => .ifCond .lt v)), (122, g0 (.ishr)), (51, g0 (.baload)), (128, g0 (.ior)), (25, g1 (fun v => .aload v)), (9, g0 (.lconst 0)), (130, g0 (.ixor)), (105, g0 (.lmul)), (32, g0 (.lload_n 2)), (173, g0 (.lreturn)), (10, g0 (.lconst 1)), (148, g0 (.lcmp)), (20, g2 (fun v => .ldc2_w v)), (190, g0 (.arraylength)), (65, g0 (.lstore_n 2)), (109, g0 (.ldiv)), (47, g0 (.laload)), (156, gs2 (fun v => .ifCond .ge v)), (116, g0 (.ineg)), (97, g0 (.ladd)), (113, g0 (.lrem)), (191, g0 (.athrow)), (77, g0 (.astore_n 2)), (157, gs2 (fun v => .ifCond .gt v)), (30, g0 (.lload_n 0)), (145, g0 (.i2b)), (84, g0 (.bastore)), (124, g0 (.iushr)), (76, g0 (.astore_n 1))]
theorem tb_ok : ∀ q ∈ tb_op, Sop q.1 q.2 := List.forall_mem_cons.mpr ⟨sop_42, List.forall_mem_cons.mpr ⟨sop_180, List.forall_mem_cons.mpr ⟨sop_182, List.forall_mem_cons.mpr ⟨sop_21, List.forall_mem_cons.mpr ⟨sop_3, List.forall_mem_cons.mpr ⟨sop_27, List.forall_mem_cons.mpr ⟨sop_167, List.forall_mem_cons.mpr ⟨sop_4, List.forall_mem_cons.mpr ⟨sop_172, List.forall_mem_cons.mpr ⟨sop_28, List.forall_mem_cons.mpr ⟨sop_96, List.forall_mem_cons.mpr ⟨sop_46, List.forall_mem_cons.mpr ⟨sop_29, List.forall_mem_cons.mpr ⟨sop_16, List.forall_mem_cons.mpr ⟨sop_54, List.forall_mem_cons.mpr ⟨sop_181, List.forall_mem_cons.mpr ⟨sop_184, List.forall_mem_cons.mpr ⟨sop_43, List.forall_mem_cons.mpr ⟨sop_153, List.forall_mem_cons.mpr ⟨sop_162, List.forall_mem_cons.mpr ⟨sop_132, List.forall_mem_cons.mpr ⟨sop_160, List.forall_mem_cons.mpr ⟨sop_154, List.forall_mem_cons.mpr ⟨sop_7, List.forall_mem_cons.mpr ⟨sop_5, List.forall_mem_cons.mpr ⟨sop_79, List.forall_mem_cons.mpr ⟨sop_2, List.forall_mem_cons.mpr ⟨sop_100, List.forall_mem_cons.mpr ⟨sop_62, List.forall_mem_cons.mpr ⟨sop_17, List.forall_mem_cons.mpr ⟨sop_61, List.forall_mem_cons.mpr ⟨sop_177, List.forall_mem_cons.mpr ⟨sop_104, List.forall_mem_cons.mpr ⟨sop_44, List.forall_mem_cons.mpr ⟨sop_6, List.forall_mem_cons.mpr ⟨sop_89, List.forall_mem_cons.mpr ⟨sop_159, List.forall_mem_cons.mpr ⟨sop_60, List.forall_mem_cons.mpr ⟨sop_163, List.forall_mem_cons.mpr ⟨sop_45, List.forall_mem_cons.mpr ⟨sop_26, List.forall_mem_cons.mpr ⟨sop_133, List.forall_mem_cons.mpr ⟨sop_158, List.forall_mem_cons.mpr ⟨sop_80, List.forall_mem_cons.mpr ⟨sop_108, List.forall_mem_cons.mpr ⟨sop_87, List.forall_mem_cons.mpr ⟨sop_18, List.forall_mem_cons.mpr ⟨sop_8, List.forall_mem_cons.mpr ⟨sop_164, List.forall_mem_cons.mpr ⟨sop_58, List.forall_mem_cons.mpr ⟨sop_161, List.forall_mem_cons.mpr ⟨sop_126, List.forall_mem_cons.mpr ⟨sop_92, List.forall_mem_cons.mpr ⟨sop_19, List.forall_mem_cons.mpr ⟨sop_183, List.forall_mem_cons.mpr ⟨sop_112, List.forall_mem_cons.mpr ⟨sop_22, List.forall_mem_cons.mpr ⟨sop_55, List.forall_mem_cons.mpr ⟨sop_78, List.forall_mem_cons.mpr ⟨sop_120, List.forall_mem_cons.mpr ⟨sop_187, List.forall_mem_cons.mpr ⟨sop_155, List.forall_mem_cons.mpr ⟨sop_122, List.forall_mem_cons.mpr ⟨sop_51, List.forall_mem_cons.mpr ⟨sop_128, List.forall_mem_cons.mpr ⟨sop_25, List.forall_mem_cons.mpr ⟨sop_9, List.forall_mem_cons.mpr ⟨sop_130, List.forall_mem_cons.mpr ⟨sop_105, List.forall_mem_cons.mpr ⟨sop_32, List.forall_mem_cons.mpr ⟨sop_173, List.forall_mem_cons.mpr ⟨sop_10, List.forall_mem_cons.mpr ⟨sop_148, List.forall_mem_cons.mpr ⟨sop_20, List.forall_mem_cons.mpr ⟨sop_190, List.forall_mem_cons.mpr ⟨sop_65, List.forall_mem_cons.mpr ⟨sop_109, List.forall_mem_cons.mpr ⟨sop_47, List.forall_mem_cons.mpr ⟨sop_156, List.forall_mem_cons.mpr ⟨sop_116, List.forall_mem_cons.mpr ⟨sop_97, List.forall_mem_cons.mpr ⟨sop_113, List.forall_mem_cons.mpr ⟨sop_191, List.forall_mem_cons.mpr ⟨sop_77, List.forall_mem_cons.mpr ⟨sop_157, List.forall_mem_cons.mpr ⟨sop_30, List.forall_mem_cons.mpr ⟨sop_145, List.forall_mem_cons.mpr ⟨sop_84, List.forall_mem_cons.mpr ⟨sop_124, List.forall_mem_cons.mpr ⟨sop_76, (fun _ h => nomatch h)⟩⟩⟩⟩⟩⟩⟩⟩⟩⟩⟩⟩⟩⟩⟩⟩⟩⟩⟩⟩⟩⟩⟩⟩⟩⟩⟩⟩⟩⟩⟩⟩⟩⟩⟩⟩⟩⟩⟩⟩⟩⟩⟩⟩⟩⟩⟩⟩⟩⟩⟩⟩⟩⟩⟩⟩⟩⟩⟩⟩⟩⟩⟩⟩⟩⟩⟩⟩⟩⟩⟩⟩⟩⟩⟩⟩⟩⟩⟩⟩⟩⟩⟩⟩⟩⟩⟩⟩⟩⟩
noncomputable def ck0 (b : ByteArray) (p : Nat) (q : Instr × Nat) (x : UInt8) (t : List UInt8) : Bool := match a_lk tb_op x.toNat with
  | some g => (match g t with
    | some v => decide (v.1 = q.1) && Nat.beq v.2 q.2
    | none => false)
  | none => decide (decode b p = .ok q)
noncomputable def ck1 (b : ByteArray) (p : Nat) (q : Instr × Nat) : List UInt8 → Bool
  | [] => false
  | x :: t => ck0 b p q x t
theorem ck1_ok {b : ByteArray} {p : Nat} {q : Instr × Nat} {l : List UInt8} (hb : Bs b p l) (h : ck1 b p q l = true) : decode b p = .ok q := by
  cases l with
  | nil => cases h
  | cons x t =>
    have h : ck0 b p q x t = true := h
    unfold ck0 at h
    split at h
    · rename_i g hg
      split at h
      · rename_i v hv
        obtain ⟨h1, h2⟩ := (Bool.and_eq_true _ _).mp h
        have e1 := of_decide_eq_true h1
        have e2 := Nat.eq_of_beq_eq_true h2
        have hm := tb_ok _ (a_lk_mem hg)
        have h3 := hm b p x t v.1 v.2 rfl hb hv
        rw [e1, e2] at h3
        exact h3
      · cases h
    · exact of_decide_eq_true h
noncomputable def ckA (b : ByteArray) : List (Nat × Instr × Nat) → Nat → List UInt8 → Bool
  | [], _, _ => true
  | q :: r, p, l => Nat.beq q.1 p && (ck1 b p q.2 l && ckA b r (p + q.2.2) (l.drop q.2.2))
theorem ckA_ok {b : ByteArray} : ∀ (qs : List (Nat × Instr × Nat)) (p : Nat) (l : List UInt8), Bs b p l → ckA b qs p l = true → ∀ q ∈ qs, decide (decode b q.1 = .ok q.2) = true
  | [], _, _, _, _, _, hq => nomatch hq
  | q :: r, p, l, hb, h, z, hz => by
    unfold ckA at h
    obtain ⟨h1, h2⟩ := (Bool.and_eq_true _ _).mp h
    obtain ⟨h3, h4⟩ := (Bool.and_eq_true _ _).mp h2
    rcases List.mem_cons.mp hz with e | e
    · rw [e, Nat.eq_of_beq_eq_true h1]
      exact decide_eq_true (ck1_ok hb h3)
    · exact ckA_ok r _ _ (bs_n hb _) h4 z e
noncomputable def mPd (k : Nat) : Bool := (mC k).all (fun q => decide (decode (mB k) q.1 = .ok q.2))
noncomputable def mPf (k : Nat) : Bool := ckA (mB k) (mC k) 0 (mB k).data.toList
theorem mPd_of {k : Nat} (h : mPf k = true) : mPd k = true := List.all_eq_true.mpr (fun q hq => ckA_ok (mC k) 0 _ rfl h q hq)
noncomputable def a_len : Instr → Nat
  | .bipush _ => 2 | .sipush _ => 3 | .ldc _ => 2 | .ldc_w _ => 3 | .ldc2_w _ => 3 | .iload _ => 2 | .lload _ => 2 | .aload _ => 2 | .istore _ => 2 | .lstore _ => 2 | .astore _ => 2
  | .iinc _ _ => 3 | .ifCond _ _ => 3 | .if_icmp _ _ => 3 | .goto _ => 3 | .getfield _ => 3 | .putfield _ => 3 | .invokevirtual _ => 3 | .invokestatic _ => 3 | .invokespecial _ => 3 | .new _ => 3 | .newarray _ => 2 | _ => 1
noncomputable def a_lenOk : Instr → Nat → Bool
  | .tableswitch _ _ _ _, _ => true
  | .lookupswitch _ _, _ => true
  | i, n => Nat.beq n (a_len i)
noncomputable def mPb (k : Nat) : Bool := (mC k).all (fun q => a_lenOk q.2.1 q.2.2) && (plainName (mY k).cls && (decide ((mY k).cls = RN (mK k)) && (decide ((parseMethodDescriptor (mY k).desc).map (fun d => d.parameters.length) = some (mV k)) && (decide (mX k ≤ 60) && (decide ((mY k).cls ≠ "java/lang/invoke/MethodHandle" ∧ (mY k).cls ≠ "java/lang/invoke/VarHandle") && (decide (mK k < 10) && ((decide (mD k = 2) == decide ((mY k).name = "<init>")) && (!decide (mD k = 2) || decide (mR k = none)))))))))
noncomputable def dsc : List (Nat × String × Nat) := [(0, "()V", 0), (1, "()Z", 0), (2, "()I", 0), (3, "(Ljava/lang/String;)I", 1), (4, "(I)V", 1), (5, "(II)V", 2), (6, "(I)I", 1), (7, "(Ljava/lang/String;III)Z", 4), (8, "(Ljava/lang/String;)V", 1), (9, "(LSnuffMill$Tape;I)V", 2), (10, "(LSnuffMill$Tape;)V", 1), (11, "(III)I", 3), (12, "(IIIIIII)I", 7), (13, "(LSnuffMill$Shop;)V", 1), (14, "(II)I", 2), (15, "(I)Z", 1), (16, "(LSnuffMill$Tape;[IIII)V", 5), (17, "(LSnuffMill$Tape;)I", 1), (18, "(LSnuffMill$Tape;LSnuffMill$Plan;II)V", 4), (19, "(LSnuffMill$Tape;LSnuffMill$Plan;I)V", 3), (20, "(LSnuffMill$Tape;LSnuffMill$Plan;)V", 2), (21, "(II)Z", 2), (22, "(IIII)V", 4), (23, "(IIII)Z", 4), (24, "(III)Z", 3), (25, "(LSnuffMill$Shop;I)Z", 2), (26, "(LSnuffMill$Shop;III)V", 4), (27, "(LSnuffMill$Plan;)V", 1), (28, "(IIIII)I", 5), (29, "(Z)V", 1), (30, "(II)J", 2), (31, "(IIII)J", 4), (32, "(IIII)I", 4), (33, "(IIIIII)I", 6), (34, "(ZII)Z", 3), (35, "([I[II)V", 3), (36, "(IIIII)V", 5), (37, "(JJI)J", 3), (38, "(III)V", 3), (39, "(I[IIZ)I", 4), (40, "(IZ)V", 2), (41, "(LSnuffMill;I[J)I", 3), (42, "(LSnuffMill;II[J)I", 4), (43, "(LSnuffMill;IIIIIII[J)I", 9), (44, "(LSnuffMill;III[J)I", 5), (45, "(LSnuffMill;IIII[J)I", 6), (46, "(LSnuffMill;IIIIII[J)I", 8), (47, "([I)Z", 1)]
noncomputable def mQ (k : Nat) : Nat := (@Bool.rec (fun _ => Nat) (@Bool.rec (fun _ => Nat) (@Bool.rec (fun _ => Nat) (@Bool.rec (fun _ => Nat) (@Bool.rec (fun _ => Nat) (@Bool.rec (fun _ => Nat) (@Bool.rec (fun _ => Nat) (@Bool.rec (fun _ => Nat) (@Bool.rec (fun _ => Nat) 47 46 (Nat.ble k 295)) 45 (Nat.ble k 294)) (@Bool.rec (fun _ => Nat) 42 41 (Nat.ble k 292)) (Nat.ble k 293)) (@Bool.rec (fun _ => Nat) (@Bool.rec (fun _ => Nat) (@Bool.rec (fun _ => Nat) 42 41 (Nat.ble k 290)) 41 (Nat.ble k 289)) 41 (Nat.ble k 288)) (Nat.ble k 291)) (@Bool.rec (fun _ => Nat) (@Bool.rec (fun _ => Nat) (@Bool.rec (fun _ => Nat) (@Bool.rec (fun _ => Nat) 42 41 (Nat.ble k 285)) 44 (Nat.ble k 284)) (@Bool.rec (fun _ => Nat) 44 45 (Nat.ble k 282)) (Nat.ble k 283)) (@Bool.rec (fun _ => Nat) 41 (@Bool.rec (fun _ => Nat) 44 42 (Nat.ble k 278)) (Nat.ble k 279)) (Nat.ble k 281)) (Nat.ble k 286)) (@Bool.rec (fun _ => Nat) (@Bool.rec (fun _ => Nat) (@Bool.rec (fun _ => Nat) (@Bool.rec (fun _ => Nat) (@Bool.rec (fun _ => Nat) 42 44 (Nat.ble k 276)) 44 (Nat.ble k 275)) (@Bool.rec (fun _ => Nat) 44 43 (Nat.ble k 273)) (Nat.ble k 274)) (@Bool.rec (fun _ => Nat) (@Bool.rec (fun _ => Nat) (@Bool.rec (fun _ => Nat) 41 42 (Nat.ble k 271)) 42 (Nat.ble k 270)) (@Bool.rec (fun _ => Nat) 42 41 (Nat.ble k 268)) (Nat.ble k 269)) (Nat.ble k 272)) (@Bool.rec (fun _ => Nat) 41 (@Bool.rec (fun _ => Nat) 6 2 (Nat.ble k 260)) (Nat.ble k 262)) (Nat.ble k 267)) (Nat.ble k 277)) (@Bool.rec (fun _ => Nat) (@Bool.rec (fun _ => Nat) (@Bool.rec (fun _ => Nat) (@Bool.rec (fun _ => Nat) (@Bool.rec (fun _ => Nat) (@Bool.rec (fun _ => Nat) 40 39 (Nat.ble k 257)) 33 (Nat.ble k 256)) (@Bool.rec (fun _ => Nat) 32 21 (Nat.ble k 254)) (Nat.ble k 255)) (@Bool.rec (fun _ => Nat) (@Bool.rec (fun _ => Nat) (@Bool.rec (fun _ => Nat) 38 6 (Nat.ble k 252)) 14 (Nat.ble k 251)) (@Bool.rec (fun _ => Nat) 6 2 (Nat.ble k 249)) (Nat.ble k 250)) (Nat.ble k 253)) (@Bool.rec (fun _ => Nat) (@Bool.rec (fun _ => Nat) (@Bool.rec (fun _ => Nat) (@Bool.rec (fun _ => Nat) 14 6 (Nat.ble k 247)) 6 (Nat.ble k 246)) 6 (Nat.ble k 245)) (@Bool.rec (fun _ => Nat) (@Bool.rec (fun _ => Nat) 2 14 (Nat.ble k 242)) (@Bool.rec (fun _ => Nat) 2 6 (Nat.ble k 240)) (Nat.ble k 241)) (Nat.ble k 243)) (Nat.ble k 248)) (@Bool.rec (fun _ => Nat) (@Bool.rec (fun _ => Nat) (@Bool.rec (fun _ => Nat) (@Bool.rec (fun _ => Nat) (@Bool.rec (fun _ => Nat) 11 14 (Nat.ble k 238)) 14 (Nat.ble k 237)) (@Bool.rec (fun _ => Nat) 11 32 (Nat.ble k 235)) (Nat.ble k 236)) (@Bool.rec (fun _ => Nat) (@Bool.rec (fun _ => Nat) 31 37 (Nat.ble k 233)) 6 (Nat.ble k 232)) (Nat.ble k 234)) (@Bool.rec (fun _ => Nat) (@Bool.rec (fun _ => Nat) (@Bool.rec (fun _ => Nat) (@Bool.rec (fun _ => Nat) 6 21 (Nat.ble k 229)) 11 (Nat.ble k 228)) 14 (Nat.ble k 227)) (@Bool.rec (fun _ => Nat) 6 (@Bool.rec (fun _ => Nat) 6 15 (Nat.ble k 222)) (Nat.ble k 223)) (Nat.ble k 225)) (Nat.ble k 230)) (Nat.ble k 239)) (Nat.ble k 258)) (@Bool.rec (fun _ => Nat) (@Bool.rec (fun _ => Nat) (@Bool.rec (fun _ => Nat) (@Bool.rec (fun _ => Nat) (@Bool.rec (fun _ => Nat) (@Bool.rec (fun _ => Nat) (@Bool.rec (fun _ => Nat) 14 11 (Nat.ble k 220)) 11 (Nat.ble k 219)) (@Bool.rec (fun _ => Nat) 11 12 (Nat.ble k 217)) (Nat.ble k 218)) (@Bool.rec (fun _ => Nat) (@Bool.rec (fun _ => Nat) (@Bool.rec (fun _ => Nat) 6 14 (Nat.ble k 215)) 14 (Nat.ble k 214)) (@Bool.rec (fun _ => Nat) 14 21 (Nat.ble k 212)) (Nat.ble k 213)) (Nat.ble k 216)) (@Bool.rec (fun _ => Nat) (@Bool.rec (fun _ => Nat) (@Bool.rec (fun _ => Nat) (@Bool.rec (fun _ => Nat) 6 2 (Nat.ble k 210)) 2 (Nat.ble k 209)) (@Bool.rec (fun _ => Nat) 2 6 (Nat.ble k 207)) (Nat.ble k 208)) (@Bool.rec (fun _ => Nat) (@Bool.rec (fun _ => Nat) 6 15 (Nat.ble k 205)) (@Bool.rec (fun _ => Nat) 6 2 (Nat.ble k 203)) (Nat.ble k 204)) (Nat.ble k 206)) (Nat.ble k 211)) (@Bool.rec (fun _ => Nat) (@Bool.rec (fun _ => Nat) (@Bool.rec (fun _ => Nat) (@Bool.rec (fun _ => Nat) (@Bool.rec (fun _ => Nat) 6 5 (Nat.ble k 201)) 15 (Nat.ble k 200)) (@Bool.rec (fun _ => Nat) 0 15 (Nat.ble k 198)) (Nat.ble k 199)) (@Bool.rec (fun _ => Nat) (@Bool.rec (fun _ => Nat) 15 6 (Nat.ble k 196)) (@Bool.rec (fun _ => Nat) 12 24 (Nat.ble k 194)) (Nat.ble k 195)) (Nat.ble k 197)) (@Bool.rec (fun _ => Nat) (@Bool.rec (fun _ => Nat) (@Bool.rec (fun _ => Nat) (@Bool.rec (fun _ => Nat) 23 4 (Nat.ble k 192)) 5 (Nat.ble k 191)) (@Bool.rec (fun _ => Nat) 14 11 (Nat.ble k 189)) (Nat.ble k 190)) (@Bool.rec (fun _ => Nat) (@Bool.rec (fun _ => Nat) 21 6 (Nat.ble k 187)) 0 (Nat.ble k 186)) (Nat.ble k 188)) (Nat.ble k 193)) (Nat.ble k 202)) (@Bool.rec (fun _ => Nat) (@Bool.rec (fun _ => Nat) (@Bool.rec (fun _ => Nat) (@Bool.rec (fun _ => Nat) (@Bool.rec (fun _ => Nat) (@Bool.rec (fun _ => Nat) 0 2 (Nat.ble k 183)) 6 (Nat.ble k 182)) (@Bool.rec (fun _ => Nat) 36 2 (Nat.ble k 180)) (Nat.ble k 181)) (@Bool.rec (fun _ => Nat) (@Bool.rec (fun _ => Nat) (@Bool.rec (fun _ => Nat) 2 11 (Nat.ble k 178)) 6 (Nat.ble k 177)) (@Bool.rec (fun _ => Nat) 0 5 (Nat.ble k 175)) (Nat.ble k 176)) (Nat.ble k 179)) (@Bool.rec (fun _ => Nat) (@Bool.rec (fun _ => Nat) (@Bool.rec (fun _ => Nat) 0 2 (Nat.ble k 172)) (@Bool.rec (fun _ => Nat) 4 5 (Nat.ble k 170)) (Nat.ble k 171)) (@Bool.rec (fun _ => Nat) (@Bool.rec (fun _ => Nat) 6 4 (Nat.ble k 168)) 15 (Nat.ble k 167)) (Nat.ble k 169)) (Nat.ble k 174)) (@Bool.rec (fun _ => Nat) (@Bool.rec (fun _ => Nat) (@Bool.rec (fun _ => Nat) (@Bool.rec (fun _ => Nat) (@Bool.rec (fun _ => Nat) 2 6 (Nat.ble k 164)) 4 (Nat.ble k 163)) (@Bool.rec (fun _ => Nat) 1 4 (Nat.ble k 161)) (Nat.ble k 162)) (@Bool.rec (fun _ => Nat) (@Bool.rec (fun _ => Nat) 14 0 (Nat.ble k 159)) (@Bool.rec (fun _ => Nat) 3 2 (Nat.ble k 157)) (Nat.ble k 158)) (Nat.ble k 160)) (@Bool.rec (fun _ => Nat) (@Bool.rec (fun _ => Nat) (@Bool.rec (fun _ => Nat) 15 2 (Nat.ble k 154)) (@Bool.rec (fun _ => Nat) 5 1 (Nat.ble k 152)) (Nat.ble k 153)) (@Bool.rec (fun _ => Nat) (@Bool.rec (fun _ => Nat) 28 0 (Nat.ble k 150)) (@Bool.rec (fun _ => Nat) 0 35 (Nat.ble k 148)) (Nat.ble k 149)) (Nat.ble k 151)) (Nat.ble k 156)) (Nat.ble k 165)) (Nat.ble k 184)) (Nat.ble k 221)) (@Bool.rec (fun _ => Nat) (@Bool.rec (fun _ => Nat) (@Bool.rec (fun _ => Nat) (@Bool.rec (fun _ => Nat) (@Bool.rec (fun _ => Nat) (@Bool.rec (fun _ => Nat) (@Bool.rec (fun _ => Nat) (@Bool.rec (fun _ => Nat) 0 24 (Nat.ble k 146)) 34 (Nat.ble k 145)) (@Bool.rec (fun _ => Nat) 2 6 (Nat.ble k 143)) (Nat.ble k 144)) (@Bool.rec (fun _ => Nat) (@Bool.rec (fun _ => Nat) (@Bool.rec (fun _ => Nat) 6 2 (Nat.ble k 141)) 2 (Nat.ble k 140)) (@Bool.rec (fun _ => Nat) 2 33 (Nat.ble k 138)) (Nat.ble k 139)) (Nat.ble k 142)) (@Bool.rec (fun _ => Nat) (@Bool.rec (fun _ => Nat) (@Bool.rec (fun _ => Nat) (@Bool.rec (fun _ => Nat) 32 11 (Nat.ble k 136)) 32 (Nat.ble k 135)) (@Bool.rec (fun _ => Nat) 31 30 (Nat.ble k 133)) (Nat.ble k 134)) (@Bool.rec (fun _ => Nat) (@Bool.rec (fun _ => Nat) 30 6 (Nat.ble k 131)) 14 (Nat.ble k 130)) (Nat.ble k 132)) (Nat.ble k 137)) (@Bool.rec (fun _ => Nat) (@Bool.rec (fun _ => Nat) (@Bool.rec (fun _ => Nat) (@Bool.rec (fun _ => Nat) (@Bool.rec (fun _ => Nat) 6 2 (Nat.ble k 127)) 21 (Nat.ble k 126)) (@Bool.rec (fun _ => Nat) 11 14 (Nat.ble k 124)) (Nat.ble k 125)) (@Bool.rec (fun _ => Nat) (@Bool.rec (fun _ => Nat) 11 21 (Nat.ble k 122)) (@Bool.rec (fun _ => Nat) 6 0 (Nat.ble k 120)) (Nat.ble k 121)) (Nat.ble k 123)) (@Bool.rec (fun _ => Nat) (@Bool.rec (fun _ => Nat) (@Bool.rec (fun _ => Nat) (@Bool.rec (fun _ => Nat) 14 6 (Nat.ble k 118)) 15 (Nat.ble k 117)) (@Bool.rec (fun _ => Nat) 14 6 (Nat.ble k 115)) (Nat.ble k 116)) (@Bool.rec (fun _ => Nat) (@Bool.rec (fun _ => Nat) 14 6 (Nat.ble k 113)) 11 (Nat.ble k 112)) (Nat.ble k 114)) (Nat.ble k 119)) (Nat.ble k 128)) (@Bool.rec (fun _ => Nat) (@Bool.rec (fun _ => Nat) (@Bool.rec (fun _ => Nat) (@Bool.rec (fun _ => Nat) (@Bool.rec (fun _ => Nat) (@Bool.rec (fun _ => Nat) 11 6 (Nat.ble k 109)) 14 (Nat.ble k 108)) 2 (Nat.ble k 107)) (@Bool.rec (fun _ => Nat) (@Bool.rec (fun _ => Nat) (@Bool.rec (fun _ => Nat) 6 12 (Nat.ble k 104)) 6 (Nat.ble k 103)) (@Bool.rec (fun _ => Nat) 6 2 (Nat.ble k 101)) (Nat.ble k 102)) (Nat.ble k 105)) (@Bool.rec (fun _ => Nat) (@Bool.rec (fun _ => Nat) (@Bool.rec (fun _ => Nat) (@Bool.rec (fun _ => Nat) 14 6 (Nat.ble k 99)) 6 (Nat.ble k 98)) (@Bool.rec (fun _ => Nat) 14 4 (Nat.ble k 96)) (Nat.ble k 97)) (@Bool.rec (fun _ => Nat) (@Bool.rec (fun _ => Nat) 14 4 (Nat.ble k 94)) (@Bool.rec (fun _ => Nat) 14 4 (Nat.ble k 92)) (Nat.ble k 93)) (Nat.ble k 95)) (Nat.ble k 100)) (@Bool.rec (fun _ => Nat) (@Bool.rec (fun _ => Nat) (@Bool.rec (fun _ => Nat) (@Bool.rec (fun _ => Nat) (@Bool.rec (fun _ => Nat) 29 6 (Nat.ble k 90)) 2 (Nat.ble k 89)) 6 (Nat.ble k 88)) 6 (Nat.ble k 86)) (@Bool.rec (fun _ => Nat) (@Bool.rec (fun _ => Nat) (@Bool.rec (fun _ => Nat) (@Bool.rec (fun _ => Nat) 5 29 (Nat.ble k 81)) 24 (Nat.ble k 80)) (@Bool.rec (fun _ => Nat) 28 0 (Nat.ble k 78)) (Nat.ble k 79)) (@Bool.rec (fun _ => Nat) (@Bool.rec (fun _ => Nat) 26 6 (Nat.ble k 76)) (@Bool.rec (fun _ => Nat) 0 4 (Nat.ble k 74)) (Nat.ble k 75)) (Nat.ble k 77)) (Nat.ble k 82)) (Nat.ble k 91)) (Nat.ble k 110)) (@Bool.rec (fun _ => Nat) (@Bool.rec (fun _ => Nat) (@Bool.rec (fun _ => Nat) (@Bool.rec (fun _ => Nat) (@Bool.rec (fun _ => Nat) (@Bool.rec (fun _ => Nat) (@Bool.rec (fun _ => Nat) 4 15 (Nat.ble k 72)) 0 (Nat.ble k 71)) 2 (Nat.ble k 70)) (@Bool.rec (fun _ => Nat) (@Bool.rec (fun _ => Nat) 6 13 (Nat.ble k 66)) 27 (Nat.ble k 65)) (Nat.ble k 68)) (@Bool.rec (fun _ => Nat) (@Bool.rec (fun _ => Nat) (@Bool.rec (fun _ => Nat) (@Bool.rec (fun _ => Nat) 26 25 (Nat.ble k 62)) 4 (Nat.ble k 61)) (@Bool.rec (fun _ => Nat) 1 0 (Nat.ble k 59)) (Nat.ble k 60)) (@Bool.rec (fun _ => Nat) 15 (@Bool.rec (fun _ => Nat) 6 21 (Nat.ble k 55)) (Nat.ble k 56)) (Nat.ble k 58)) (Nat.ble k 63)) (@Bool.rec (fun _ => Nat) (@Bool.rec (fun _ => Nat) (@Bool.rec (fun _ => Nat) (@Bool.rec (fun _ => Nat) (@Bool.rec (fun _ => Nat) 24 23 (Nat.ble k 53)) 22 (Nat.ble k 52)) (@Bool.rec (fun _ => Nat) 6 21 (Nat.ble k 50)) (Nat.ble k 51)) (@Bool.rec (fun _ => Nat) (@Bool.rec (fun _ => Nat) 14 11 (Nat.ble k 48)) (@Bool.rec (fun _ => Nat) 11 15 (Nat.ble k 46)) (Nat.ble k 47)) (Nat.ble k 49)) (@Bool.rec (fun _ => Nat) (@Bool.rec (fun _ => Nat) (@Bool.rec (fun _ => Nat) (@Bool.rec (fun _ => Nat) 14 21 (Nat.ble k 44)) 6 (Nat.ble k 43)) (@Bool.rec (fun _ => Nat) 20 19 (Nat.ble k 41)) (Nat.ble k 42)) (@Bool.rec (fun _ => Nat) (@Bool.rec (fun _ => Nat) 18 2 (Nat.ble k 39)) (@Bool.rec (fun _ => Nat) 17 0 (Nat.ble k 37)) (Nat.ble k 38)) (Nat.ble k 40)) (Nat.ble k 45)) (Nat.ble k 54)) (@Bool.rec (fun _ => Nat) (@Bool.rec (fun _ => Nat) (@Bool.rec (fun _ => Nat) (@Bool.rec (fun _ => Nat) 10 (@Bool.rec (fun _ => Nat) 9 16 (Nat.ble k 32)) (Nat.ble k 33)) (@Bool.rec (fun _ => Nat) (@Bool.rec (fun _ => Nat) (@Bool.rec (fun _ => Nat) 15 0 (Nat.ble k 30)) 14 (Nat.ble k 29)) (@Bool.rec (fun _ => Nat) 0 13 (Nat.ble k 27)) (Nat.ble k 28)) (Nat.ble k 31)) (@Bool.rec (fun _ => Nat) (@Bool.rec (fun _ => Nat) 13 (@Bool.rec (fun _ => Nat) 1 0 (Nat.ble k 22)) (Nat.ble k 23)) (@Bool.rec (fun _ => Nat) (@Bool.rec (fun _ => Nat) 0 12 (Nat.ble k 20)) (@Bool.rec (fun _ => Nat) 11 6 (Nat.ble k 18)) (Nat.ble k 19)) (Nat.ble k 21)) (Nat.ble k 26)) (@Bool.rec (fun _ => Nat) (@Bool.rec (fun _ => Nat) (@Bool.rec (fun _ => Nat) (@Bool.rec (fun _ => Nat) (@Bool.rec (fun _ => Nat) 10 0 (Nat.ble k 16)) 1 (Nat.ble k 15)) 9 (Nat.ble k 14)) (@Bool.rec (fun _ => Nat) (@Bool.rec (fun _ => Nat) 9 8 (Nat.ble k 11)) (@Bool.rec (fun _ => Nat) 3 7 (Nat.ble k 9)) (Nat.ble k 10)) (Nat.ble k 12)) (@Bool.rec (fun _ => Nat) (@Bool.rec (fun _ => Nat) (@Bool.rec (fun _ => Nat) (@Bool.rec (fun _ => Nat) 6 5 (Nat.ble k 7)) 1 (Nat.ble k 6)) (@Bool.rec (fun _ => Nat) 4 3 (Nat.ble k 4)) (Nat.ble k 5)) (@Bool.rec (fun _ => Nat) (@Bool.rec (fun _ => Nat) 2 1 (Nat.ble k 2)) 0 (Nat.ble k 1)) (Nat.ble k 3)) (Nat.ble k 8)) (Nat.ble k 17)) (Nat.ble k 36)) (Nat.ble k 73)) (Nat.ble k 147))
set_option maxRecDepth 100000 in
theorem dsc_ok : dsc.all (fun q => decide ((parseMethodDescriptor q.2.1).map (fun d => d.parameters.length) = some q.2.2)) = true := by decide +kernel
noncomputable def mPq (k : Nat) : Bool := (mC k).all (fun q => a_lenOk q.2.1 q.2.2) && (plainName (mY k).cls && (decide ((mY k).cls = RN (mK k)) && (decide (a_lk dsc (mQ k) = some ((mY k).desc, mV k)) && (decide (mX k ≤ 60) && (decide ((mY k).cls ≠ "java/lang/invoke/MethodHandle" ∧ (mY k).cls ≠ "java/lang/invoke/VarHandle") && (decide (mK k < 10) && ((decide (mD k = 2) == decide ((mY k).name = "<init>")) && (!decide (mD k = 2) || decide (mR k = none)))))))))
theorem mPb_of {k : Nat} (h : mPq k = true) : mPb k = true := by
  obtain ⟨h1, h2⟩ := (Bool.and_eq_true _ _).mp h
  obtain ⟨h3, h4⟩ := (Bool.and_eq_true _ _).mp h2
  obtain ⟨h5, h6⟩ := (Bool.and_eq_true _ _).mp h4
  obtain ⟨h7, h8⟩ := (Bool.and_eq_true _ _).mp h6
  have e := List.all_eq_true.mp dsc_ok _ (a_lk_mem (of_decide_eq_true h7))
  exact (Bool.and_eq_true _ _).mpr ⟨h1, (Bool.and_eq_true _ _).mpr ⟨h3, (Bool.and_eq_true _ _).mpr ⟨h5, (Bool.and_eq_true _ _).mpr ⟨e, h8⟩⟩⟩⟩
set_option maxRecDepth 100000 in
theorem mPf_0 : ((List.range 28).all fun k => mPf (0 + k)) = true := by decide +kernel
set_option maxRecDepth 100000 in
theorem mPf_28 : ((List.range 20).all fun k => mPf (28 + k)) = true := by decide +kernel
set_option maxRecDepth 100000 in
theorem mPf_48 : ((List.range 31).all fun k => mPf (48 + k)) = true := by decide +kernel
set_option maxRecDepth 100000 in
theorem mPf_79 : ((List.range 33).all fun k => mPf (79 + k)) = true := by decide +kernel
set_option maxRecDepth 100000 in
theorem mPf_112 : ((List.range 23).all fun k => mPf (112 + k)) = true := by decide +kernel
set_option maxRecDepth 100000 in
theorem mPf_135 : ((List.range 25).all fun k => mPf (135 + k)) = true := by decide +kernel
set_option maxRecDepth 100000 in
theorem mPf_160 : ((List.range 21).all fun k => mPf (160 + k)) = true := by decide +kernel
set_option maxRecDepth 100000 in
theorem mPf_181 : ((List.range 19).all fun k => mPf (181 + k)) = true := by decide +kernel
set_option maxRecDepth 100000 in
theorem mPf_200 : ((List.range 17).all fun k => mPf (200 + k)) = true := by decide +kernel
set_option maxRecDepth 100000 in
theorem mPf_217 : ((List.range 17).all fun k => mPf (217 + k)) = true := by decide +kernel
set_option maxRecDepth 100000 in
theorem mPf_234 : ((List.range 18).all fun k => mPf (234 + k)) = true := by decide +kernel
set_option maxRecDepth 100000 in
theorem mPf_252 : ((List.range 42).all fun k => mPf (252 + k)) = true := by decide +kernel
set_option maxRecDepth 100000 in
theorem mPf_294 : ((List.range 2).all fun k => mPf (294 + k)) = true := by decide +kernel
set_option maxRecDepth 100000 in
theorem mPf_296 : ((List.range 1).all fun k => mPf (296 + k)) = true := by decide +kernel
theorem a_rng {f : Nat → Bool} {a n k : Nat} (h : ((List.range n).all fun k => f (a + k)) = true) (h1 : a ≤ k) (h2 : k < a + n) : f k = true := by
  have h3 := List.all_eq_true.mp h (k - a) (List.mem_range.mpr (by omega))
  rwa [show a + (k - a) = k from by omega] at h3
theorem mPd_ok {k : Nat} (h : k < mN) : mPd k = true := by
  unfold mN at h
  by_cases h0 : k < 28
  · exact mPd_of (a_rng mPf_0 (by omega) h0)
  by_cases h28 : k < 48
  · exact mPd_of (a_rng mPf_28 (by omega) h28)
  by_cases h48 : k < 79
  · exact mPd_of (a_rng mPf_48 (by omega) h48)
  by_cases h79 : k < 112
  · exact mPd_of (a_rng mPf_79 (by omega) h79)
  by_cases h112 : k < 135
  · exact mPd_of (a_rng mPf_112 (by omega) h112)
  by_cases h135 : k < 160
  · exact mPd_of (a_rng mPf_135 (by omega) h135)
  by_cases h160 : k < 181
  · exact mPd_of (a_rng mPf_160 (by omega) h160)
  by_cases h181 : k < 200
  · exact mPd_of (a_rng mPf_181 (by omega) h181)
  by_cases h200 : k < 217
  · exact mPd_of (a_rng mPf_200 (by omega) h200)
  by_cases h217 : k < 234
  · exact mPd_of (a_rng mPf_217 (by omega) h217)
  by_cases h234 : k < 252
  · exact mPd_of (a_rng mPf_234 (by omega) h234)
  by_cases h252 : k < 294
  · exact mPd_of (a_rng mPf_252 (by omega) h252)
  by_cases h294 : k < 296
  · exact mPd_of (a_rng mPf_294 (by omega) h294)
  by_cases h296 : k < 297
  · exact mPd_of (a_rng mPf_296 (by omega) h296)
  omega
set_option maxRecDepth 100000 in
theorem mPq_0 : ((List.range 100).all fun k => mPq (0 + k)) = true := by decide +kernel
set_option maxRecDepth 100000 in
theorem mPq_100 : ((List.range 100).all fun k => mPq (100 + k)) = true := by decide +kernel
set_option maxRecDepth 100000 in
theorem mPq_200 : ((List.range 97).all fun k => mPq (200 + k)) = true := by decide +kernel
theorem mPb_ok {k : Nat} (h : k < mN) : mPb k = true := by
  unfold mN at h
  by_cases h0 : k < 100
  · exact mPb_of (a_rng mPq_0 (by omega) h0)
  by_cases h100 : k < 200
  · exact mPb_of (a_rng mPq_100 (by omega) h100)
  by_cases h200 : k < 297
  · exact mPb_of (a_rng mPq_200 (by omega) h200)
  omega
