def smN (b : Nat → Nat) : Nat → Nat
  | 0 => 0
  | n + 1 => smN b n + b n
theorem smN_d2 {b : Nat → Nat} : ∀ {n : Nat}, smN (d2 b) n = smN b (2 * n)
  | 0 => rfl
  | n + 1 => by rw [show 2 * (n + 1) = 2 * n + 1 + 1 by omega, smN, smN, smN, smN_d2 (n := n), d2]; omega
theorem smN_8 {s : Nat → Nat} : smN s 8 = s 0 + s 1 + s 2 + s 3 + s 4 + s 5 + s 6 + s 7 := by simp [smN]
theorem nsDEF_ok {s : Nat → Nat} (hb : ∀ i, s i < 9) (hz : ∀ i, 8 ≤ i → s i = 0) : nsF (nsE (nsD (lnP 8 s 8))) % 128 = smN s 8 := by
  have h1 : nsD (lnP 8 s 8) = lnP 8 (fun i => s i + s (i + 1)) 8 := by
    unfold nsD
    rw [lnP_shl (fun i => by have := hb i; omega) hz (by omega), lnP_add]
  have h2 : nsE (lnP 8 (fun i => s i + s (i + 1)) 8) = lnP 8 (fun i => s i + s (i + 1) + (s (i + 2) + s (i + 2 + 1))) 8 := by
    unfold nsE
    rw [lnP_shl (fun i => by have := hb i; have := hb (i + 1); omega) (fun i hi => by rw [hz i hi, hz (i + 1) (by omega)]) (by omega), lnP_add]
  have h3 : nsF (lnP 8 (fun i => s i + s (i + 1) + (s (i + 2) + s (i + 2 + 1))) 8) = lnP 8 (fun i => s i + s (i + 1) + (s (i + 2) + s (i + 2 + 1)) + (s (i + 4) + s (i + 4 + 1) + (s (i + 4 + 2) + s (i + 4 + 2 + 1)))) 8 := by
    unfold nsF
    rw [lnP_shl (fun i => by have := hb i; have := hb (i + 1); have := hb (i + 2); have := hb (i + 2 + 1); omega) (fun i hi => by rw [hz i hi, hz (i + 1) (by omega), hz (i + 2) (by omega), hz (i + 2 + 1) (by omega)]) (by omega), lnP_add]
  rw [h1, h2, h3, smN_8]
  obtain ⟨q, h⟩ := lnP_f (k := 8) (n := 7) (f := fun i => s i + s (i + 1) + (s (i + 2) + s (i + 2 + 1)) + (s (i + 4) + s (i + 4 + 1) + (s (i + 4 + 2) + s (i + 4 + 2 + 1))))
  rw [h]
  have := hb 0
  have := hb 1
  have := hb 2
  have := hb 3
  have := hb 4
  have := hb 5
  have := hb 6
  have := hb 7
  show (s 0 + s 1 + (s 2 + s 3) + (s 4 + s 5 + (s 6 + s 7)) + 2 ^ 8 * q) % 128 = _
  omega
theorem ns_ok {b : Nat → Nat} (hb : ∀ i, b i < 2) (hz : ∀ i, 64 ≤ i → b i = 0) : nsF (nsE (nsD (nsC (nsB (nsA (lnP 1 b 64)))))) % 128 = smN b 64 := by
  have h1 : ∀ i, d2 b i < 3 := fun i => by have := hb (2 * i); have := hb (2 * i + 1); unfold d2; omega
  have h2 : ∀ i, d2 (d2 b) i < 5 := fun i => by have := h1 (2 * i); have := h1 (2 * i + 1); rw [d2]; omega
  have h3 : ∀ i, d2 (d2 (d2 b)) i < 9 := fun i => by have := h2 (2 * i); have := h2 (2 * i + 1); rw [d2]; omega
  have z1 : ∀ i, 32 ≤ i → d2 b i = 0 := fun i hi => by rw [d2, hz _ (by omega), hz _ (by omega)]
  have z2 : ∀ i, 16 ≤ i → d2 (d2 b) i = 0 := fun i hi => by rw [d2, z1 _ (by omega), z1 _ (by omega)]
  have z3 : ∀ i, 8 ≤ i → d2 (d2 (d2 b)) i = 0 := fun i hi => by rw [d2, z2 _ (by omega), z2 _ (by omega)]
  rw [nsA_ok hb, nsB_ok h1, nsC_ok h2 z2, nsDEF_ok h3 z3, smN_d2, smN_d2, smN_d2]
