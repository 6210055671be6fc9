/-! the count of a long's bits -/
def N64 (x : Int64) : Nat := x.toBitVec.toNat
theorem N64_lt (x : Int64) : N64 x < 2 ^ 64 := x.toBitVec.isLt
theorem N64_and (x y : Int64) : N64 (x &&& y) = N64 x &&& N64 y := by unfold N64; rw [Int64.toBitVec_and, BitVec.toNat_and]
theorem N64_add (x y : Int64) : N64 (x + y) = (N64 x + N64 y) % 2 ^ 64 := by unfold N64; rw [Int64.toBitVec_add, BitVec.toNat_add]
theorem N64_sub (x y : Int64) : N64 (x - y) = (2 ^ 64 - N64 y + N64 x) % 2 ^ 64 := by unfold N64; rw [Int64.toBitVec_sub, BitVec.toNat_sub]
theorem N64_ush {x : Int64} {p : Nat} (hp : p < 64) : N64 (xlushr x (nI p)) = N64 x / 2 ^ p := by
  show (x.toUInt64 >>> ((nI p).toInt64.toUInt64 &&& Int64.toUInt64 63)).toBitVec.toNat = x.toUInt64.toBitVec.toNat / 2 ^ p
  rw [UInt64.toBitVec_shiftRight]
  show (x.toUInt64.toBitVec >>> (((nI p).toInt64.toUInt64 &&& Int64.toUInt64 63).toBitVec % 64).toNat).toNat = _
  rw [u_64 p hp, BitVec.toNat_ushiftRight, Nat.shiftRight_eq_div_pow]
theorem k_5 : N64 6148914691236517205 = lnP 2 (fun _ => 1) 32 := by decide
theorem k_3 : N64 3689348814741910323 = lnP 4 (fun _ => 3) 16 := by decide
theorem k_f : N64 1085102592571150095 = lnP 8 (fun _ => 15) 8 := by decide
theorem N_A (x : Int64) : N64 (blA x) = nsA (N64 x) := by
  unfold blA
  rw [N64_sub, N64_and, show xlushr x 1 = xlushr x (nI 1) from rfl, N64_ush (by omega), k_5]
  unfold nsA
  have h1 : N64 x / 2 ^ 1 &&& lnP 2 (fun _ => 1) 32 ≤ N64 x / 2 ^ 1 := Nat.and_le_left
  have h2 : N64 x / 2 ^ 1 ≤ N64 x := Nat.div_le_self _ _
  have h3 := N64_lt x
  generalize N64 x / 2 ^ 1 &&& lnP 2 (fun _ => 1) 32 = m at *
  generalize N64 x / 2 ^ 1 = m' at *
  omega
theorem N_B (x : Int64) : N64 (blB x) = nsB (N64 x) % 2 ^ 64 := by
  unfold blB nsB
  rw [N64_add, N64_and, N64_and, show xlushr x 2 = xlushr x (nI 2) from rfl, N64_ush (by omega), k_3]
theorem N_C (x : Int64) (h : N64 x + N64 x / 2 ^ (4 * 1) < 2 ^ 64) : N64 (blC x) = nsC (N64 x) := by
  unfold blC nsC
  rw [N64_and, N64_add, show xlushr x 4 = xlushr x (nI 4) from rfl, N64_ush (by omega), k_f]
  rw [Nat.mod_eq_of_lt h]
theorem N_D (x : Int64) : N64 (blD x) = nsD (N64 x) % 2 ^ 64 := by
  unfold blD nsD
  rw [N64_add, show xlushr x 8 = xlushr x (nI 8) from rfl, N64_ush (by omega)]
theorem N_E (x : Int64) : N64 (blE x) = nsE (N64 x) % 2 ^ 64 := by
  unfold blE nsE
  rw [N64_add, show xlushr x 16 = xlushr x (nI 16) from rfl, N64_ush (by omega)]
theorem N_F (x : Int64) : N64 (blF x) = nsF (N64 x) % 2 ^ 64 := by
  unfold blF nsF
  rw [N64_add, show xlushr x 32 = xlushr x (nI 32) from rfl, N64_ush (by omega)]
theorem bits_ln {n m : Nat} (h : n < 2 ^ m) : lnP 1 (fun i => (n.testBit i).toNat) m = n := by
  refine Nat.eq_of_testBit_eq (fun i => ?_)
  have := lnP_tb (k := 1) (i := i) (r := 0) (f := fun i => (n.testBit i).toNat) (n := m) (by omega) (fun i _ => by show (n.testBit i).toNat < 2 ^ 1; cases n.testBit i <;> decide)
  rw [Nat.one_mul, Nat.add_zero] at this
  rw [this]
  by_cases hi : i < m
  · rw [decide_eq_true hi, Bool.true_and]
    show ((n.testBit i).toNat).testBit 0 = _
    cases n.testBit i <;> rfl
  · rw [decide_eq_false hi, Bool.false_and]
    exact (Nat.testBit_lt_two_pow (Nat.lt_of_lt_of_le h (Nat.pow_le_pow_right (by omega) (by omega)))).symm
theorem b_127 (y : Int64) : y.toInt32 &&& 127 = nI (N64 y % 128) := by
  refine Int32.toBitVec_inj.mp (BitVec.eq_of_toNat_eq ?_)
  rw [Int32.toBitVec_and, BitVec.toNat_and]
  have e1 : y.toInt32.toBitVec.toNat = N64 y % 2 ^ 32 := by
    show (y.toBitVec.signExtend 32).toNat = _
    rw [BitVec.signExtend_eq_setWidth_of_le _ (by omega), BitVec.toNat_setWidth]
    rfl
  have e2 : (127 : Int32).toBitVec.toNat = 2 ^ 7 - 1 := rfl
  have e3 : (nI (N64 y % 128)).toBitVec.toNat = N64 y % 128 % 2 ^ 32 := rfl
  rw [e1, e2, e3, Nat.and_two_pow_sub_one_eq_mod]
  omega
