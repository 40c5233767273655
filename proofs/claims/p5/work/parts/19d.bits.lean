/-! ===== shifts and masks over whole numbers ===== -/
theorem sh_n : ∀ n : Fin 32, ((Int32.ofInt (n.val : Int) &&& 31).toBitVec.smod 32).toNat = n.val := by decide +kernel
theorem c_shr {a b m : Int} (n : Nat) (h : -2147483648 ≤ a ∧ a ≤ 2147483647) (hb : b = (n : Int)) (hn : n < 32) (hm : ((2 ^ n : Nat) : Int) = m) : Int32.ofInt a >>> (Int32.ofInt b &&& 31) = Int32.ofInt (a / m) := by
  subst hb hm
  refine Int32.toInt_inj.mp ?_
  have e : -2147483648 ≤ a / ((2 ^ n : Nat) : Int) ∧ a / ((2 ^ n : Nat) : Int) ≤ 2147483647 := by
    have h1 : (1 : Int) ≤ ((2 ^ n : Nat) : Int) := Int.ofNat_le.mpr (Nat.one_le_pow _ _ (by decide))
    have h4 := Int.emod_nonneg a (show ((2 ^ n : Nat) : Int) ≠ 0 by omega)
    constructor
    · exact Int.le_trans (Int.le_ediv_of_mul_le (by omega) (by omega)) (Int.le_refl _)
    · by_cases hz : 0 ≤ a
      · exact Int.le_trans (Int.ediv_le_self _ hz) h.2
      · have := Int.ediv_neg_of_neg_of_pos (show a < 0 by omega) (show (0 : Int) < ((2 ^ n : Nat) : Int) by omega)
        omega
  rw [Int32.toInt_ofInt_of_le (by omega) (by omega), ← Int32.toInt_toBitVec, Int32.toBitVec_shiftRight, BitVec.toInt_sshiftRight', sh_n ⟨n, hn⟩, Int32.toInt_toBitVec, Int32.toInt_ofInt_of_le (by omega) (by omega), Int.shiftRight_eq_div_pow]
theorem c_and8 (a : Int) : Int32.ofInt a &&& Int32.ofInt 255 = Int32.ofInt (a % 256) := by
  refine Int32.toBitVec_inj.mp (BitVec.eq_of_toNat_eq ?_)
  rw [Int32.toBitVec_and, BitVec.toNat_and]
  show (BitVec.ofInt 32 a).toNat &&& (BitVec.ofInt 32 255).toNat = (BitVec.ofInt 32 (a % 256)).toNat
  rw [show (BitVec.ofInt 32 255).toNat = 2 ^ 8 - 1 from rfl, BitVec.toNat_ofInt, BitVec.toNat_ofInt, Nat.and_two_pow_sub_one_eq_mod]
  omega
theorem c_and15 (a : Int) : Int32.ofInt a &&& Int32.ofInt 32767 = Int32.ofInt (a % 32768) := by
  refine Int32.toBitVec_inj.mp (BitVec.eq_of_toNat_eq ?_)
  rw [Int32.toBitVec_and, BitVec.toNat_and]
  show (BitVec.ofInt 32 a).toNat &&& (BitVec.ofInt 32 32767).toNat = (BitVec.ofInt 32 (a % 32768)).toNat
  rw [show (BitVec.ofInt 32 32767).toNat = 2 ^ 15 - 1 from rfl, BitVec.toNat_ofInt, BitVec.toNat_ofInt, Nat.and_two_pow_sub_one_eq_mod]
  omega
theorem c_and6 (a : Int) : Int32.ofInt a &&& Int32.ofInt 63 = Int32.ofInt (a % 64) := by
  refine Int32.toBitVec_inj.mp (BitVec.eq_of_toNat_eq ?_)
  rw [Int32.toBitVec_and, BitVec.toNat_and]
  show (BitVec.ofInt 32 a).toNat &&& (BitVec.ofInt 32 63).toNat = (BitVec.ofInt 32 (a % 64)).toNat
  rw [show (BitVec.ofInt 32 63).toNat = 2 ^ 6 - 1 from rfl, BitVec.toNat_ofInt, BitVec.toNat_ofInt, Nat.and_two_pow_sub_one_eq_mod]
  omega
section BT
variable {sc : List Int32} {d k pc len nc ns : Nat} {ls : AL} {st r : List Value} {w : AW} {Z : AR → Prop}
theorem v_ishr {a b m v : Int} (n : Nat) (hd : mLk k pc = some (.ishr, len)) (h : -2147483648 ≤ a ∧ a ≤ 2147483647) (hb : b = (n : Int)) (hn : n < 32) (hm : ((2 ^ n : Nat) : Int) = m) (hv : a / m = v) (K : Wp sc d k (pc + 1) ls (vi v :: r) w nc ns Z) : Wp sc d k pc ls (vi b :: vi a :: r) w nc ns Z := q_ishr hd (by rw [c_shr n h hb hn hm, hv]; exact K)
theorem v_i2b {a : Int} (hd : mLk k pc = some (.i2b, len)) (K : Wp sc d k (pc + 1) ls (vi (sb a) :: r) w nc ns Z) : Wp sc d k pc ls (vi a :: r) w nc ns Z := q_i2b hd (by rw [sb_of]; exact K)
theorem sb_mod (a : Int) : sb a % 256 = a % 256 := by
  unfold sb
  rw [Int8.toInt_ofInt, Int.bmod_def]
  show (if a % 256 < (256 + 1) / 2 then a % 256 else a % 256 - 256) % 256 = a % 256
  split <;> omega
theorem v_and8 {a v : Int} (hd : mLk k pc = some (.iand, len)) (hv : a % 256 = v) (K : Wp sc d k (pc + 1) ls (vi v :: r) w nc ns Z) : Wp sc d k pc ls (vi 255 :: vi a :: r) w nc ns Z := q_iand hd (by rw [c_and8, hv]; exact K)
theorem v_and15 {a v : Int} (hd : mLk k pc = some (.iand, len)) (hv : a % 32768 = v) (K : Wp sc d k (pc + 1) ls (vi v :: r) w nc ns Z) : Wp sc d k pc ls (vi 32767 :: vi a :: r) w nc ns Z := q_iand hd (by rw [c_and15, hv]; exact K)
theorem v_and6 {a v : Int} (hd : mLk k pc = some (.iand, len)) (hv : a % 64 = v) (K : Wp sc d k (pc + 1) ls (vi v :: r) w nc ns Z) : Wp sc d k pc ls (vi 63 :: vi a :: r) w nc ns Z := q_iand hd (by rw [c_and6, hv]; exact K)
end BT
