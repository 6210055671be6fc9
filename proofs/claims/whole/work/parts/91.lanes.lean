/-! numbers as lanes of bits, for the count of a long's bits -/
def lnP (k : Nat) (f : Nat → Nat) : Nat → Nat
  | 0 => 0
  | n + 1 => lnP k f n + 2 ^ (k * n) * f n
theorem lnP_lt {k : Nat} {f : Nat → Nat} : ∀ {n : Nat}, (∀ i, i < n → f i < 2 ^ k) → lnP k f n < 2 ^ (k * n)
  | 0, _ => by simp [lnP]
  | n + 1, h => by
    have ih := lnP_lt (k := k) (f := f) (n := n) (fun i hi => h i (by omega))
    have h1 := h n (by omega)
    rw [lnP, Nat.mul_succ, Nat.pow_add]
    calc lnP k f n + 2 ^ (k * n) * f n < 2 ^ (k * n) + 2 ^ (k * n) * f n := by omega
      _ = 2 ^ (k * n) * (f n + 1) := by rw [Nat.mul_succ]; omega
      _ ≤ 2 ^ (k * n) * 2 ^ k := Nat.mul_le_mul_left _ h1
theorem and_split {k a b c d : Nat} (hb : b < 2 ^ k) (hd : d < 2 ^ k) : (b + 2 ^ k * a) &&& (d + 2 ^ k * c) = (b &&& d) + 2 ^ k * (a &&& c) := by
  have hbd : b &&& d < 2 ^ k := Nat.lt_of_le_of_lt Nat.and_le_left hb
  rw [Nat.add_comm b, Nat.add_comm d, Nat.add_comm (b &&& d)]
  refine Nat.eq_of_testBit_eq (fun i => ?_)
  rw [Nat.testBit_and, Nat.testBit_two_pow_mul_add _ hb, Nat.testBit_two_pow_mul_add _ hd, Nat.testBit_two_pow_mul_add _ hbd]
  split
  · rw [Nat.testBit_and]
  · rw [Nat.testBit_and]
theorem lnP_and {k : Nat} {f g : Nat → Nat} : ∀ {n : Nat}, (∀ i, i < n → f i < 2 ^ k) → (∀ i, i < n → g i < 2 ^ k) → lnP k f n &&& lnP k g n = lnP k (fun i => f i &&& g i) n
  | 0, _, _ => by simp [lnP]
  | n + 1, hf, hg => by
    rw [lnP, lnP, lnP, and_split (lnP_lt (fun i hi => hf i (by omega))) (lnP_lt (fun i hi => hg i (by omega))), lnP_and (fun i hi => hf i (by omega)) (fun i hi => hg i (by omega))]
theorem lnP_add {k : Nat} {f g : Nat → Nat} : ∀ {n : Nat}, lnP k f n + lnP k g n = lnP k (fun i => f i + g i) n
  | 0 => rfl
  | n + 1 => by rw [lnP, lnP, lnP, ← lnP_add (n := n), Nat.mul_add]; omega
theorem lnP_c {k : Nat} {f g : Nat → Nat} : ∀ {n : Nat}, (∀ i, i < n → f i = g i) → lnP k f n = lnP k g n
  | 0, _ => rfl
  | n + 1, h => by rw [lnP, lnP, lnP_c (fun i hi => h i (by omega)), h n (by omega)]
/-- two lanes as one -/
theorem lnP_2 {k : Nat} {f : Nat → Nat} : ∀ {n : Nat}, lnP k f (2 * n) = lnP (2 * k) (fun i => f (2 * i) + 2 ^ k * f (2 * i + 1)) n
  | 0 => rfl
  | n + 1 => by
    have e1 : k * (2 * n) = 2 * k * n := by rw [← Nat.mul_assoc, Nat.mul_comm k 2]
    have e2 : k * (2 * n + 1) = 2 * k * n + k := by rw [Nat.mul_add, e1, Nat.mul_one]
    rw [show 2 * (n + 1) = 2 * n + 1 + 1 by omega, lnP, lnP, lnP, lnP_2 (n := n), e1, e2, Nat.pow_add, Nat.mul_assoc (2 ^ (2 * k * n)), Nat.mul_add (2 ^ (2 * k * n)), Nat.add_assoc]
/-- the bits of lanes -/
theorem lnP_tb {k i r : Nat} {f : Nat → Nat} (hr : r < k) : ∀ {n : Nat}, (∀ i, i < n → f i < 2 ^ k) → (lnP k f n).testBit (k * i + r) = (decide (i < n) && (f i).testBit r)
  | 0, _ => by simp [lnP]
  | n + 1, hf => by
    have hl := lnP_lt (k := k) (f := f) (n := n) (fun i hi => hf i (by omega))
    rw [lnP, Nat.add_comm, Nat.testBit_two_pow_mul_add _ hl]
    rcases Nat.lt_trichotomy i n with h | h | h
    · have h1 : k * (i + 1) ≤ k * n := Nat.mul_le_mul_left _ h
      rw [Nat.mul_succ] at h1
      rw [if_pos (by omega), lnP_tb hr (fun i hi => hf i (by omega)), decide_eq_true h, decide_eq_true (show i < n + 1 by omega)]
    · subst h
      rw [if_neg (by omega), Nat.add_sub_cancel_left, decide_eq_true (show i < i + 1 by omega), Bool.true_and]
    · have h1 : k * (n + 1) ≤ k * i := Nat.mul_le_mul_left _ h
      rw [Nat.mul_succ] at h1
      rw [if_neg (by omega), decide_eq_false (show ¬ i < n + 1 by omega), Bool.false_and]
      exact Nat.testBit_lt_two_pow (Nat.lt_of_lt_of_le (hf n (by omega)) (Nat.pow_le_pow_right (by omega) (by omega)))
/-- a shift, and a mask that keeps to the lanes -/
theorem lnP_sh {k s n : Nat} {f m : Nat → Nat} (hs : s < k) (hf : ∀ i, i < n → f i < 2 ^ k) (hm : ∀ i, i < n → m i < 2 ^ (k - s)) : (lnP k f n / 2 ^ s) &&& lnP k m n = lnP k (fun i => (f i / 2 ^ s) &&& m i) n := by
  have hk : ∀ i, i < n → m i < 2 ^ k := fun i hi => Nat.lt_of_lt_of_le (hm i hi) (Nat.pow_le_pow_right (by omega) (by omega))
  refine Nat.eq_of_testBit_eq (fun j => ?_)
  have ej : j = k * (j / k) + j % k := (Nat.div_add_mod j k).symm
  have hr : j % k < k := Nat.mod_lt _ (by omega)
  generalize j / k = i at ej
  generalize j % k = r at ej hr
  subst ej
  rw [Nat.testBit_and, lnP_tb hr hk, lnP_tb hr (fun i hi => Nat.lt_of_le_of_lt Nat.and_le_right (hk i hi)), Nat.testBit_and, Nat.testBit_div_two_pow, Nat.testBit_div_two_pow]
  by_cases hi : i < n
  · by_cases h2 : r + s < k
    · rw [show k * i + r + s = k * i + (r + s) by omega, lnP_tb h2 hf, decide_eq_true hi]; simp
    · have : (m i).testBit r = false := Nat.testBit_lt_two_pow (Nat.lt_of_lt_of_le (hm i hi) (Nat.pow_le_pow_right (by omega) (by omega)))
      rw [this]; simp
  · rw [decide_eq_false hi]; simp
