/-! ===== a measure ===== -/
theorem a_gnil {big : List Cond} : GoodIn big [] := fun _ h => nomatch h
def pkg : List Nat → List Cond → List Cond
  | [], _ => []
  | g :: gs, l => match l.drop g with
    | [] => []
    | x :: t => x :: pkg gs t
theorem pkg_mem : ∀ (gs : List Nat) (l : List Cond) (w : Cond), w ∈ pkg gs l → w ∈ l
  | [], _, _, h => nomatch h
  | g :: gs, l, w, h => by
    unfold pkg at h
    cases hd : l.drop g with
    | nil => rw [hd] at h; exact (fun z : w ∈ ([] : List Cond) => nomatch z) h
    | cons x t =>
      rw [hd] at h
      have hx : w ∈ l.drop g := by
        rw [hd]
        have h2 : w ∈ x :: pkg gs t := h
        rcases List.mem_cons.mp h2 with e | e
        · exact List.mem_cons.mpr (Or.inl e)
        · exact List.mem_cons.mpr (Or.inr (pkg_mem gs t w e))
      exact List.mem_of_mem_drop hx
theorem goodIn_g {big : List Cond} (ws : List Cond) (gs ps : List Nat) (hp : ws = ps.filterMap (fun i => (pkg gs big)[i]?)) (h : ws.all goodWord = true) : GoodIn big ws := by
  refine goodIn_sub (fun w hw => ?_) h
  rw [hp] at hw
  obtain ⟨i, -, hi⟩ := List.mem_filterMap.mp hw
  exact pkg_mem gs big w (List.mem_of_getElem? hi)
def mPd (k : Nat) : Bool := (mC k).all (fun q => decide (decode (mB k) q.1 = .ok q.2))
def a_len : Instr → Nat
  | .bipush _ => 2 | .sipush _ => 3 | .ldc _ => 2 | .ldc_w _ => 3 | .ldc2_w _ => 3 | .iload _ => 2 | .lload _ => 2 | .aload _ => 2 | .istore _ => 2 | .lstore _ => 2 | .astore _ => 2
  | .iinc _ _ => 3 | .ifCond _ _ => 3 | .if_icmp _ _ => 3 | .goto _ => 3 | .getfield _ => 3 | .putfield _ => 3 | .invokevirtual _ => 3 | .invokestatic _ => 3 | .invokespecial _ => 3 | .new _ => 3 | .newarray _ => 2 | _ => 1
def a_lenOk : Instr → Nat → Bool
  | .tableswitch _ _ _ _, _ => true
  | .lookupswitch _ _, _ => true
  | i, n => Nat.beq n (a_len i)
def mPb (k : Nat) : Bool := (mC k).all (fun q => a_lenOk q.2.1 q.2.2) && (plainName (mY k).cls && (decide ((mY k).cls = RN (mK k)) && (decide ((parseMethodDescriptor (mY k).desc).map (fun d => d.parameters.length) = some (mV k)) && (decide (mX k ≤ 60) && (decide ((mY k).cls ≠ "java/lang/invoke/MethodHandle" ∧ (mY k).cls ≠ "java/lang/invoke/VarHandle") && (decide (mK k < 10) && ((decide (mD k = 2) == decide ((mY k).name = "<init>")) && (!decide (mD k = 2) || decide (mR k = none)))))))))
