theorem lnP_sl {k j : Nat} {f : Nat → Nat} (hf : ∀ i, f i < 2 ^ k) : ∀ {n : Nat}, lnP k f (n + j) / 2 ^ (k * j) = lnP k (fun i => f (i + j)) n
  | 0 => by rw [Nat.zero_add, Nat.div_eq_of_lt (lnP_lt (fun i _ => hf i))]; rfl
  | n + 1 => by
    rw [show n + 1 + j = n + j + 1 by omega, lnP, lnP, show k * (n + j) = k * j + k * n by rw [Nat.mul_add, Nat.add_comm], Nat.pow_add, Nat.mul_assoc, Nat.add_mul_div_left _ _ (Nat.two_pow_pos _), lnP_sl hf]
theorem lnP_z {k n : Nat} {g : Nat → Nat} (hz : ∀ i, n ≤ i → g i = 0) : ∀ {j : Nat}, lnP k g (n + j) = lnP k g n
  | 0 => rfl
  | j + 1 => by rw [show n + (j + 1) = n + j + 1 by omega, lnP, hz (n + j) (by omega), Nat.mul_zero, Nat.add_zero, lnP_z hz]
theorem lnP_shl {k n j : Nat} {f : Nat → Nat} (hf : ∀ i, f i < 2 ^ k) (hz : ∀ i, n ≤ i → f i = 0) (hj : j ≤ n) : lnP k f n / 2 ^ (k * j) = lnP k (fun i => f (i + j)) n := by
  obtain ⟨m, rfl⟩ : ∃ m, n = m + j := ⟨n - j, by omega⟩
  rw [lnP_sl hf, lnP_z (g := fun i => f (i + j)) (fun i hi => hz (i + j) (by omega))]
theorem lnP_f {k : Nat} {f : Nat → Nat} : ∀ {n : Nat}, ∃ q, lnP k f (n + 1) = f 0 + 2 ^ k * q
  | 0 => ⟨0, by simp [lnP]⟩
  | n + 1 => by
    obtain ⟨q, h⟩ := lnP_f (k := k) (f := f) (n := n)
    refine ⟨q + 2 ^ (k * n) * f (n + 1), ?_⟩
    rw [lnP, h, Nat.mul_succ, Nat.add_comm (k * n), Nat.pow_add, Nat.mul_add, Nat.mul_assoc, Nat.add_assoc]
def nsA (x : Nat) : Nat := x - (x / 2 ^ 1 &&& lnP 2 (fun _ => 1) 32)
def nsB (x : Nat) : Nat := (x &&& lnP 4 (fun _ => 3) 16) + (x / 2 ^ 2 &&& lnP 4 (fun _ => 3) 16)
def nsC (x : Nat) : Nat := (x + x / 2 ^ (4 * 1)) &&& lnP 8 (fun _ => 15) 8
def nsD (x : Nat) : Nat := x + x / 2 ^ (8 * 1)
def nsE (x : Nat) : Nat := x + x / 2 ^ (8 * 2)
def nsF (x : Nat) : Nat := x + x / 2 ^ (8 * 4)
def d2 (b : Nat → Nat) (i : Nat) : Nat := b (2 * i) + b (2 * i + 1)
theorem a_1 : ∀ a, a < 2 → ∀ b, b < 2 → (a + 2 ^ 1 * b) / 2 ^ 1 &&& 1 = b := by decide
theorem nsA_ok {b : Nat → Nat} (hb : ∀ i, b i < 2) : nsA (lnP 1 b (2 * 32)) = lnP 2 (d2 b) 32 := by
  have h2 : ∀ i, b (2 * i) + 2 ^ 1 * b (2 * i + 1) < 2 ^ 2 := fun i => by have := hb (2 * i); have := hb (2 * i + 1); omega
  unfold nsA
  rw [lnP_2]
  show lnP 2 _ 32 - _ = _
  rw [lnP_sh (by omega) (fun i _ => h2 i) (fun _ _ => by decide)]
  have e1 : lnP 2 (fun i => (b (2 * i) + 2 ^ 1 * b (2 * i + 1)) / 2 ^ 1 &&& 1) 32 = lnP 2 (fun i => b (2 * i + 1)) 32 := lnP_c (fun i _ => a_1 _ (hb _) _ (hb _))
  have e2 : lnP 2 (fun i => b (2 * i) + 2 ^ 1 * b (2 * i + 1)) 32 = lnP 2 (d2 b) 32 + lnP 2 (fun i => b (2 * i + 1)) 32 := by
    rw [lnP_add]
    exact lnP_c (fun i _ => by unfold d2; omega)
  rw [e1, e2, Nat.add_sub_cancel]
theorem b_1 : ∀ a, a < 3 → ∀ b, b < 3 → ((a + 2 ^ 2 * b) &&& 3) + ((a + 2 ^ 2 * b) / 2 ^ 2 &&& 3) = a + b := by decide
theorem nsB_ok {b : Nat → Nat} (hb : ∀ i, b i < 3) : nsB (lnP 2 b (2 * 16)) = lnP 4 (d2 b) 16 := by
  have h2 : ∀ i, b (2 * i) + 2 ^ 2 * b (2 * i + 1) < 2 ^ 4 := fun i => by have := hb (2 * i); have := hb (2 * i + 1); omega
  unfold nsB
  rw [lnP_2]
  show (lnP 4 _ 16 &&& _) + (lnP 4 _ 16 / _ &&& _) = _
  rw [lnP_sh (by omega) (fun i _ => h2 i) (fun _ _ => by decide), lnP_and (fun i _ => h2 i) (fun _ _ => by decide), lnP_add]
  exact lnP_c (fun i _ => b_1 _ (hb _) _ (hb _))
theorem c_1 : ∀ a, a < 9 → ∀ b, b < 9 → ((a + 2 ^ 4 * b) &&& 15) = a := by decide
theorem nsC_ok {b : Nat → Nat} (hb : ∀ i, b i < 5) (hz : ∀ i, 2 * 8 ≤ i → b i = 0) : nsC (lnP 4 b (2 * 8)) = lnP 8 (d2 b) 8 := by
  have h8 : ∀ i, b i + b (i + 1) < 9 := fun i => by have := hb i; have := hb (i + 1); omega
  unfold nsC
  rw [lnP_shl (fun i => by have := hb i; omega) hz (by omega), lnP_add, lnP_2]
  show lnP 8 _ 8 &&& _ = _
  rw [lnP_and (fun i _ => by have := h8 (2 * i); have := h8 (2 * i + 1); omega) (fun _ _ => by decide)]
  exact lnP_c (fun i _ => c_1 _ (h8 _) _ (h8 _))
