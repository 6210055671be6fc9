theorem bc_64 (x : Int64) : bc64 x = nI (smN (fun i => ((N64 x).testBit i).toNat) 64) := by
  have e0 := bits_ln (N64_lt x)
  have hb : ∀ i, (fun i => ((N64 x).testBit i).toNat) i < 2 := fun i => by show ((N64 x).testBit i).toNat < 2; cases (N64 x).testBit i <;> decide
  have hz : ∀ i, 64 ≤ i → (fun i => ((N64 x).testBit i).toNat) i = 0 := fun i hi => by
    show ((N64 x).testBit i).toNat = 0
    rw [Nat.testBit_lt_two_pow (Nat.lt_of_lt_of_le (N64_lt x) (Nat.pow_le_pow_right (by omega) hi))]; rfl
  generalize (fun i => ((N64 x).testBit i).toNat) = b at *
  have h1 : ∀ i, d2 b i < 3 := fun i => by have := hb (2 * i); have := hb (2 * i + 1); unfold d2; omega
  have h2 : ∀ i, d2 (d2 b) i < 5 := fun i => by have := h1 (2 * i); have := h1 (2 * i + 1); rw [d2]; omega
  have h3 : ∀ i, d2 (d2 (d2 b)) i < 9 := fun i => by have := h2 (2 * i); have := h2 (2 * i + 1); rw [d2]; omega
  have z1 : ∀ i, 32 ≤ i → d2 b i = 0 := fun i hi => by rw [d2, hz _ (by omega), hz _ (by omega)]
  have z2 : ∀ i, 16 ≤ i → d2 (d2 b) i = 0 := fun i hi => by rw [d2, z1 _ (by omega), z1 _ (by omega)]
  have z3 : ∀ i, 8 ≤ i → d2 (d2 (d2 b)) i = 0 := fun i hi => by rw [d2, z2 _ (by omega), z2 _ (by omega)]
  have eA : N64 (blA x) = lnP 2 (d2 b) 32 := by rw [N_A, ← e0]; exact nsA_ok hb
  have l2 : lnP 4 (d2 (d2 b)) 16 < 2 ^ 64 := lnP_lt (k := 4) (n := 16) (fun i _ => by have := h2 i; omega)
  have eB : N64 (blB (blA x)) = lnP 4 (d2 (d2 b)) 16 := by rw [N_B, eA, show lnP 2 (d2 b) 32 = lnP 2 (d2 b) (2 * 16) from rfl, nsB_ok h1, Nat.mod_eq_of_lt l2]
  have eC : N64 (blC (blB (blA x))) = lnP 8 (d2 (d2 (d2 b))) 8 := by
    rw [N_C, eB]
    · exact nsC_ok h2 z2
    · rw [eB, lnP_shl (fun i => by have := h2 i; omega) z2 (by omega), lnP_add]
      exact lnP_lt (k := 4) (n := 16) (fun i _ => by have := h2 i; have := h2 (i + 1); omega)
  have hX : lnP 8 (d2 (d2 (d2 b))) 8 < 9 * 2 ^ 56 := by
    have l7 : lnP 8 (d2 (d2 (d2 b))) 7 < 2 ^ 56 := lnP_lt (k := 8) (n := 7) (fun i _ => by have := h3 i; omega)
    have := h3 7
    rw [lnP]
    generalize lnP 8 (d2 (d2 (d2 b))) 7 = Y at *
    generalize d2 (d2 (d2 b)) 7 = y at *
    omega
  have hF := nsDEF_ok h3 z3
  rw [smN_d2, smN_d2, smN_d2] at hF
  unfold bc64
  rw [b_127, N_F, N_E, N_D, eC]
  generalize lnP 8 (d2 (d2 (d2 b))) 8 = X at *
  have q1 : nsD X < 18 * 2 ^ 56 := by unfold nsD; have := Nat.div_le_self X (2 ^ (8 * 1)); omega
  rw [Nat.mod_eq_of_lt (show nsD X < 2 ^ 64 by omega)]
  generalize nsD X = Y at *
  have q2 : nsE Y < 36 * 2 ^ 56 := by unfold nsE; have := Nat.div_le_self Y (2 ^ (8 * 2)); omega
  rw [Nat.mod_eq_of_lt (show nsE Y < 2 ^ 64 by omega)]
  generalize nsE Y = Z at *
  have q3 : nsF Z < 72 * 2 ^ 56 := by unfold nsF; have := Nat.div_le_self Z (2 ^ (8 * 4)); omega
  rw [Nat.mod_eq_of_lt (show nsF Z < 2 ^ 64 by omega), hF]
theorem smN_z {b : Nat → Nat} {n : Nat} (hz : ∀ i, n ≤ i → i < 64 → b i = 0) : ∀ {j : Nat}, n + j ≤ 64 → smN b (n + j) = smN b n
  | 0, _ => rfl
  | j + 1, h => by rw [show n + (j + 1) = n + j + 1 by omega, smN, hz _ (by omega) (by omega), smN_z hz (by omega), Nat.add_zero]
theorem wc_n {τ : xS} {b : Nat → Nat} : ∀ {n : Nat}, (∀ i, i < n → τ.1 10 i = nI (b i)) → wcM τ n = nI (smN b n)
  | 0, _ => rfl
  | n + 1, h => by rw [wcM, wc_n (fun i hi => h i (by omega)), h n (by omega), nI_add]; rfl
theorem wc_eq {G N : Nat} {σ τ : xS} (h : RRn G N σ τ) : bc64 (σ.2 100 0) = wcM τ 49 := by
  have hl := h.1.1.1.2.2.2
  have hw := h.1.1.2.2.2.2
  have hh : HB (σ.2 100 0) := h.1.2.2
  have hbit : ∀ p, p < 64 → (xlushr (σ.2 100 0) (nI p) &&& 1 = 1 ↔ (N64 (σ.2 100 0)).testBit p = true) := fun p hp => wl_bit hp
  rw [bc_64]
  have e1 : smN (fun i => ((N64 (σ.2 100 0)).testBit i).toNat) 64 = smN (fun i => ((N64 (σ.2 100 0)).testBit i).toNat) 49 := smN_z (n := 49) (j := 15) (fun i h1 h2 => by
    have := hh i h1 h2
    rw [hbit i h2] at this
    show ((N64 (σ.2 100 0)).testBit i).toNat = 0
    rw [Bool.not_eq_true _ |>.mp this]; rfl) (by omega)
  rw [e1, wc_n (b := fun i => ((N64 (σ.2 100 0)).testBit i).toNat)]
  intro i hi
  have h1 := hbit i (by omega)
  rw [hl i hi] at h1
  obtain ⟨c, hc, e⟩ := hw i hi
  show τ.1 10 i = nI ((N64 (σ.2 100 0)).testBit i).toNat
  cases eb : (N64 (σ.2 100 0)).testBit i with
  | true => exact h1.mpr eb
  | false =>
    have : c ≠ 1 := fun z => by
      have := h1.mp (by rw [e, z]; rfl)
      rw [eb] at this
      exact absurd this (by decide)
    rw [e, show c = 0 by omega]
    rfl
