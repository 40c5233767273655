/-! ===== the code of the methods, decoded ===== -/
def mPd (k : Nat) : Bool := (mC k).all (fun q => decide (decode (mB k) q.1 = .ok q.2))
def a_len : Instr → Nat
  | .bipush _ => 2 | .sipush _ => 3 | .ldc _ => 2 | .ldc_w _ => 3 | .ldc2_w _ => 3 | .iload _ => 2 | .lload _ => 2 | .aload _ => 2 | .istore _ => 2 | .lstore _ => 2 | .astore _ => 2
  | .iinc _ _ => 3 | .ifCond _ _ => 3 | .if_icmp _ _ => 3 | .goto _ => 3 | .getfield _ => 3 | .putfield _ => 3 | .invokevirtual _ => 3 | .invokestatic _ => 3 | .invokespecial _ => 3 | .new _ => 3 | .newarray _ => 2 | _ => 1
def a_lenOk : Instr → Nat → Bool
  | .tableswitch _ _ _ _, _ => true
  | .lookupswitch _ _, _ => true
  | i, n => Nat.beq n (a_len i)
def mPb (k : Nat) : Bool := (mC k).all (fun q => a_lenOk q.2.1 q.2.2) && (plainName (mY k).cls && (decide ((mY k).cls = RN (mK k)) && (decide ((parseMethodDescriptor (mY k).desc).map (fun d => d.parameters.length) = some (mV k)) && (decide (mX k ≤ 60) && (decide ((mY k).cls ≠ "java/lang/invoke/MethodHandle" ∧ (mY k).cls ≠ "java/lang/invoke/VarHandle") && (decide (mK k < 10) && ((decide (mD k = 2) == decide ((mY k).name = "<init>")) && (!decide (mD k = 2) || decide (mR k = none)))))))))
set_option maxRecDepth 100000 in
theorem mPd_0 : ((List.range 10).all fun k => mPd (0 + k)) = true := by decide +kernel
set_option maxRecDepth 100000 in
theorem mPd_10 : ((List.range 8).all fun k => mPd (10 + k)) = true := by decide +kernel
set_option maxRecDepth 100000 in
theorem mPd_18 : ((List.range 9).all fun k => mPd (18 + k)) = true := by decide +kernel
set_option maxRecDepth 100000 in
theorem mPd_27 : ((List.range 8).all fun k => mPd (27 + k)) = true := by decide +kernel
set_option maxRecDepth 100000 in
theorem mPd_35 : ((List.range 5).all fun k => mPd (35 + k)) = true := by decide +kernel
set_option maxRecDepth 100000 in
theorem mPd_40 : ((List.range 3).all fun k => mPd (40 + k)) = true := by decide +kernel
set_option maxRecDepth 100000 in
theorem mPd_43 : ((List.range 10).all fun k => mPd (43 + k)) = true := by decide +kernel
set_option maxRecDepth 100000 in
theorem mPd_53 : ((List.range 9).all fun k => mPd (53 + k)) = true := by decide +kernel
set_option maxRecDepth 100000 in
theorem mPd_62 : ((List.range 10).all fun k => mPd (62 + k)) = true := by decide +kernel
set_option maxRecDepth 100000 in
theorem mPd_72 : ((List.range 10).all fun k => mPd (72 + k)) = true := by decide +kernel
set_option maxRecDepth 100000 in
theorem mPd_82 : ((List.range 10).all fun k => mPd (82 + k)) = true := by decide +kernel
set_option maxRecDepth 100000 in
theorem mPd_92 : ((List.range 10).all fun k => mPd (92 + k)) = true := by decide +kernel
set_option maxRecDepth 100000 in
theorem mPd_102 : ((List.range 9).all fun k => mPd (102 + k)) = true := by decide +kernel
set_option maxRecDepth 100000 in
theorem mPd_111 : ((List.range 8).all fun k => mPd (111 + k)) = true := by decide +kernel
set_option maxRecDepth 100000 in
theorem mPd_119 : ((List.range 6).all fun k => mPd (119 + k)) = true := by decide +kernel
set_option maxRecDepth 100000 in
theorem mPd_125 : ((List.range 9).all fun k => mPd (125 + k)) = true := by decide +kernel
set_option maxRecDepth 100000 in
theorem mPd_134 : ((List.range 4).all fun k => mPd (134 + k)) = true := by decide +kernel
set_option maxRecDepth 100000 in
theorem mPd_138 : ((List.range 10).all fun k => mPd (138 + k)) = true := by decide +kernel
set_option maxRecDepth 100000 in
theorem mPd_148 : ((List.range 5).all fun k => mPd (148 + k)) = true := by decide +kernel
set_option maxRecDepth 100000 in
theorem mPd_153 : ((List.range 10).all fun k => mPd (153 + k)) = true := by decide +kernel
set_option maxRecDepth 100000 in
theorem mPd_163 : ((List.range 8).all fun k => mPd (163 + k)) = true := by decide +kernel
set_option maxRecDepth 100000 in
theorem mPd_171 : ((List.range 6).all fun k => mPd (171 + k)) = true := by decide +kernel
set_option maxRecDepth 100000 in
theorem mPd_177 : ((List.range 5).all fun k => mPd (177 + k)) = true := by decide +kernel
set_option maxRecDepth 100000 in
theorem mPd_182 : ((List.range 6).all fun k => mPd (182 + k)) = true := by decide +kernel
set_option maxRecDepth 100000 in
theorem mPd_188 : ((List.range 5).all fun k => mPd (188 + k)) = true := by decide +kernel
set_option maxRecDepth 100000 in
theorem mPd_193 : ((List.range 3).all fun k => mPd (193 + k)) = true := by decide +kernel
set_option maxRecDepth 100000 in
theorem mPd_196 : ((List.range 6).all fun k => mPd (196 + k)) = true := by decide +kernel
set_option maxRecDepth 100000 in
theorem mPd_202 : ((List.range 5).all fun k => mPd (202 + k)) = true := by decide +kernel
set_option maxRecDepth 100000 in
theorem mPd_207 : ((List.range 6).all fun k => mPd (207 + k)) = true := by decide +kernel
set_option maxRecDepth 100000 in
theorem mPd_213 : ((List.range 7).all fun k => mPd (213 + k)) = true := by decide +kernel
set_option maxRecDepth 100000 in
theorem mPd_220 : ((List.range 8).all fun k => mPd (220 + k)) = true := by decide +kernel
set_option maxRecDepth 100000 in
theorem mPd_228 : ((List.range 4).all fun k => mPd (228 + k)) = true := by decide +kernel
set_option maxRecDepth 100000 in
theorem mPd_232 : ((List.range 4).all fun k => mPd (232 + k)) = true := by decide +kernel
set_option maxRecDepth 100000 in
theorem mPd_236 : ((List.range 5).all fun k => mPd (236 + k)) = true := by decide +kernel
set_option maxRecDepth 100000 in
theorem mPd_241 : ((List.range 7).all fun k => mPd (241 + k)) = true := by decide +kernel
set_option maxRecDepth 100000 in
theorem mPd_248 : ((List.range 5).all fun k => mPd (248 + k)) = true := by decide +kernel
set_option maxRecDepth 100000 in
theorem mPd_253 : ((List.range 5).all fun k => mPd (253 + k)) = true := by decide +kernel
set_option maxRecDepth 100000 in
theorem mPd_258 : ((List.range 10).all fun k => mPd (258 + k)) = true := by decide +kernel
set_option maxRecDepth 100000 in
theorem mPd_268 : ((List.range 10).all fun k => mPd (268 + k)) = true := by decide +kernel
set_option maxRecDepth 100000 in
theorem mPd_278 : ((List.range 10).all fun k => mPd (278 + k)) = true := by decide +kernel
set_option maxRecDepth 100000 in
theorem mPd_288 : ((List.range 8).all fun k => mPd (288 + k)) = true := by decide +kernel
theorem a_rng {f : Nat → Bool} {a n k : Nat} (h : ((List.range n).all fun k => f (a + k)) = true) (h1 : a ≤ k) (h2 : k < a + n) : f k = true := by
  have h3 := List.all_eq_true.mp h (k - a) (List.mem_range.mpr (by omega))
  rwa [show a + (k - a) = k from by omega] at h3
set_option maxRecDepth 100000 in
theorem mPl_0_0 : (((mc_296_0.drop 0).take 50).all (fun q => decide (decode code q.1 = .ok q.2))) = true := by decide +kernel
set_option maxRecDepth 100000 in
theorem mPl_0_1 : (((mc_296_0.drop 50).take 50).all (fun q => decide (decode code q.1 = .ok q.2))) = true := by decide +kernel
set_option maxRecDepth 100000 in
theorem mPl_1_0 : (((mc_296_1.drop 0).take 50).all (fun q => decide (decode code q.1 = .ok q.2))) = true := by decide +kernel
set_option maxRecDepth 100000 in
theorem mPl_1_1 : (((mc_296_1.drop 50).take 50).all (fun q => decide (decode code q.1 = .ok q.2))) = true := by decide +kernel
set_option maxRecDepth 100000 in
theorem mPl_2_0 : (((mc_296_2.drop 0).take 50).all (fun q => decide (decode code q.1 = .ok q.2))) = true := by decide +kernel
set_option maxRecDepth 100000 in
theorem mPl_2_1 : (((mc_296_2.drop 50).take 50).all (fun q => decide (decode code q.1 = .ok q.2))) = true := by decide +kernel
set_option maxRecDepth 100000 in
theorem mPl_3_0 : (((mc_296_3.drop 0).take 50).all (fun q => decide (decode code q.1 = .ok q.2))) = true := by decide +kernel
set_option maxRecDepth 100000 in
theorem mPl_3_1 : (((mc_296_3.drop 50).take 50).all (fun q => decide (decode code q.1 = .ok q.2))) = true := by decide +kernel
set_option maxRecDepth 100000 in
theorem mPl_4_0 : (((mc_296_4.drop 0).take 50).all (fun q => decide (decode code q.1 = .ok q.2))) = true := by decide +kernel
set_option maxRecDepth 100000 in
theorem mPl_4_1 : (((mc_296_4.drop 50).take 50).all (fun q => decide (decode code q.1 = .ok q.2))) = true := by decide +kernel
set_option maxRecDepth 100000 in
theorem mPl_5_0 : (((mc_296_5.drop 0).take 50).all (fun q => decide (decode code q.1 = .ok q.2))) = true := by decide +kernel
set_option maxRecDepth 100000 in
theorem mPl_5_1 : (((mc_296_5.drop 50).take 50).all (fun q => decide (decode code q.1 = .ok q.2))) = true := by decide +kernel
set_option maxRecDepth 100000 in
theorem mPl_6_0 : (((mc_296_6.drop 0).take 50).all (fun q => decide (decode code q.1 = .ok q.2))) = true := by decide +kernel
set_option maxRecDepth 100000 in
theorem mPl_6_1 : (((mc_296_6.drop 50).take 50).all (fun q => decide (decode code q.1 = .ok q.2))) = true := by decide +kernel
set_option maxRecDepth 100000 in
theorem mPl_7_0 : (((mc_296_7.drop 0).take 50).all (fun q => decide (decode code q.1 = .ok q.2))) = true := by decide +kernel
set_option maxRecDepth 100000 in
theorem mPl_7_1 : (((mc_296_7.drop 50).take 50).all (fun q => decide (decode code q.1 = .ok q.2))) = true := by decide +kernel
set_option maxRecDepth 100000 in
theorem mPl_8_0 : (((mc_296_8.drop 0).take 50).all (fun q => decide (decode code q.1 = .ok q.2))) = true := by decide +kernel
set_option maxRecDepth 100000 in
theorem mPl_8_1 : (((mc_296_8.drop 50).take 50).all (fun q => decide (decode code q.1 = .ok q.2))) = true := by decide +kernel
set_option maxRecDepth 100000 in
theorem mPl_9_0 : (((mc_296_9.drop 0).take 50).all (fun q => decide (decode code q.1 = .ok q.2))) = true := by decide +kernel
set_option maxRecDepth 100000 in
theorem mPl_9_1 : (((mc_296_9.drop 50).take 50).all (fun q => decide (decode code q.1 = .ok q.2))) = true := by decide +kernel
set_option maxRecDepth 100000 in
theorem mPl_10_0 : (((mc_296_10.drop 0).take 50).all (fun q => decide (decode code q.1 = .ok q.2))) = true := by decide +kernel
set_option maxRecDepth 100000 in
theorem mPl_10_1 : (((mc_296_10.drop 50).take 50).all (fun q => decide (decode code q.1 = .ok q.2))) = true := by decide +kernel
set_option maxRecDepth 100000 in
theorem mPl_11_0 : (((mc_296_11.drop 0).take 50).all (fun q => decide (decode code q.1 = .ok q.2))) = true := by decide +kernel
set_option maxRecDepth 100000 in
theorem mPl_11_1 : (((mc_296_11.drop 50).take 50).all (fun q => decide (decode code q.1 = .ok q.2))) = true := by decide +kernel
theorem a_half {α : Type} {f : α → Bool} {l : List α} (h0 : ((l.drop 0).take 50).all f = true) (h1 : ((l.drop 50).take 50).all f = true) (hl : l.length ≤ 100) : l.all f = true := by
  have e : l = ((l.drop 0).take 50) ++ ((l.drop 50).take 50) := by
    rw [List.drop_zero, List.take_of_length_le (l := l.drop 50) (by rw [List.length_drop]; omega), List.take_append_drop]
  rw [e, List.all_append, h0, h1]; rfl
theorem mPl : mPd 296 = true := by
  show (mc_296.all (fun q => decide (decode code q.1 = .ok q.2))) = true
  unfold mc_296
  simp only [List.all_append, Bool.and_eq_true]
  exact ⟨a_half mPl_0_0 mPl_0_1 (by decide), ⟨a_half mPl_1_0 mPl_1_1 (by decide), ⟨a_half mPl_2_0 mPl_2_1 (by decide), ⟨a_half mPl_3_0 mPl_3_1 (by decide), ⟨a_half mPl_4_0 mPl_4_1 (by decide), ⟨a_half mPl_5_0 mPl_5_1 (by decide), ⟨a_half mPl_6_0 mPl_6_1 (by decide), ⟨a_half mPl_7_0 mPl_7_1 (by decide), ⟨a_half mPl_8_0 mPl_8_1 (by decide), ⟨a_half mPl_9_0 mPl_9_1 (by decide), ⟨a_half mPl_10_0 mPl_10_1 (by decide), a_half mPl_11_0 mPl_11_1 (by decide)⟩⟩⟩⟩⟩⟩⟩⟩⟩⟩⟩
theorem mPd_ok {k : Nat} (h : k < mN) : mPd k = true := by
  unfold mN at h
  by_cases h0 : k < 10
  · exact a_rng mPd_0 (by omega) h0
  by_cases h10 : k < 18
  · exact a_rng mPd_10 (by omega) h10
  by_cases h18 : k < 27
  · exact a_rng mPd_18 (by omega) h18
  by_cases h27 : k < 35
  · exact a_rng mPd_27 (by omega) h27
  by_cases h35 : k < 40
  · exact a_rng mPd_35 (by omega) h35
  by_cases h40 : k < 43
  · exact a_rng mPd_40 (by omega) h40
  by_cases h43 : k < 53
  · exact a_rng mPd_43 (by omega) h43
  by_cases h53 : k < 62
  · exact a_rng mPd_53 (by omega) h53
  by_cases h62 : k < 72
  · exact a_rng mPd_62 (by omega) h62
  by_cases h72 : k < 82
  · exact a_rng mPd_72 (by omega) h72
  by_cases h82 : k < 92
  · exact a_rng mPd_82 (by omega) h82
  by_cases h92 : k < 102
  · exact a_rng mPd_92 (by omega) h92
  by_cases h102 : k < 111
  · exact a_rng mPd_102 (by omega) h102
  by_cases h111 : k < 119
  · exact a_rng mPd_111 (by omega) h111
  by_cases h119 : k < 125
  · exact a_rng mPd_119 (by omega) h119
  by_cases h125 : k < 134
  · exact a_rng mPd_125 (by omega) h125
  by_cases h134 : k < 138
  · exact a_rng mPd_134 (by omega) h134
  by_cases h138 : k < 148
  · exact a_rng mPd_138 (by omega) h138
  by_cases h148 : k < 153
  · exact a_rng mPd_148 (by omega) h148
  by_cases h153 : k < 163
  · exact a_rng mPd_153 (by omega) h153
  by_cases h163 : k < 171
  · exact a_rng mPd_163 (by omega) h163
  by_cases h171 : k < 177
  · exact a_rng mPd_171 (by omega) h171
  by_cases h177 : k < 182
  · exact a_rng mPd_177 (by omega) h177
  by_cases h182 : k < 188
  · exact a_rng mPd_182 (by omega) h182
  by_cases h188 : k < 193
  · exact a_rng mPd_188 (by omega) h188
  by_cases h193 : k < 196
  · exact a_rng mPd_193 (by omega) h193
  by_cases h196 : k < 202
  · exact a_rng mPd_196 (by omega) h196
  by_cases h202 : k < 207
  · exact a_rng mPd_202 (by omega) h202
  by_cases h207 : k < 213
  · exact a_rng mPd_207 (by omega) h207
  by_cases h213 : k < 220
  · exact a_rng mPd_213 (by omega) h213
  by_cases h220 : k < 228
  · exact a_rng mPd_220 (by omega) h220
  by_cases h228 : k < 232
  · exact a_rng mPd_228 (by omega) h228
  by_cases h232 : k < 236
  · exact a_rng mPd_232 (by omega) h232
  by_cases h236 : k < 241
  · exact a_rng mPd_236 (by omega) h236
  by_cases h241 : k < 248
  · exact a_rng mPd_241 (by omega) h241
  by_cases h248 : k < 253
  · exact a_rng mPd_248 (by omega) h248
  by_cases h253 : k < 258
  · exact a_rng mPd_253 (by omega) h253
  by_cases h258 : k < 268
  · exact a_rng mPd_258 (by omega) h258
  by_cases h268 : k < 278
  · exact a_rng mPd_268 (by omega) h268
  by_cases h278 : k < 288
  · exact a_rng mPd_278 (by omega) h278
  by_cases h288 : k < 296
  · exact a_rng mPd_288 (by omega) h288
  have e : k = 296 := by omega
  rw [e]; exact mPl
set_option maxRecDepth 100000 in
theorem mPb_0 : ((List.range 30).all fun k => mPb (0 + k)) = true := by decide +kernel
set_option maxRecDepth 100000 in
theorem mPb_30 : ((List.range 30).all fun k => mPb (30 + k)) = true := by decide +kernel
set_option maxRecDepth 100000 in
theorem mPb_60 : ((List.range 30).all fun k => mPb (60 + k)) = true := by decide +kernel
set_option maxRecDepth 100000 in
theorem mPb_90 : ((List.range 30).all fun k => mPb (90 + k)) = true := by decide +kernel
set_option maxRecDepth 100000 in
theorem mPb_120 : ((List.range 30).all fun k => mPb (120 + k)) = true := by decide +kernel
set_option maxRecDepth 100000 in
theorem mPb_150 : ((List.range 30).all fun k => mPb (150 + k)) = true := by decide +kernel
set_option maxRecDepth 100000 in
theorem mPb_180 : ((List.range 30).all fun k => mPb (180 + k)) = true := by decide +kernel
set_option maxRecDepth 100000 in
theorem mPb_210 : ((List.range 30).all fun k => mPb (210 + k)) = true := by decide +kernel
set_option maxRecDepth 100000 in
theorem mPb_240 : ((List.range 30).all fun k => mPb (240 + k)) = true := by decide +kernel
set_option maxRecDepth 100000 in
theorem mPb_270 : ((List.range 27).all fun k => mPb (270 + k)) = true := by decide +kernel
theorem mPb_ok {k : Nat} (h : k < mN) : mPb k = true := by
  unfold mN at h
  by_cases h0 : k < 30
  · exact a_rng mPb_0 (by omega) h0
  by_cases h30 : k < 60
  · exact a_rng mPb_30 (by omega) h30
  by_cases h60 : k < 90
  · exact a_rng mPb_60 (by omega) h60
  by_cases h90 : k < 120
  · exact a_rng mPb_90 (by omega) h90
  by_cases h120 : k < 150
  · exact a_rng mPb_120 (by omega) h120
  by_cases h150 : k < 180
  · exact a_rng mPb_150 (by omega) h150
  by_cases h180 : k < 210
  · exact a_rng mPb_180 (by omega) h180
  by_cases h210 : k < 240
  · exact a_rng mPb_210 (by omega) h210
  by_cases h240 : k < 270
  · exact a_rng mPb_240 (by omega) h240
  by_cases h270 : k < 297
  · exact a_rng mPb_270 (by omega) h270
  omega
