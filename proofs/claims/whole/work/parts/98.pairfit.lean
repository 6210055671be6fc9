/-! sights that fit: beats behind the last one count for nothing -/
theorem snI_no {P : Nat → Bool} {s0 : Int32} : ∀ {n : Nat}, (∀ i, i < n → P i = false) → snI P s0 n = s0
  | 0, _ => rfl
  | n + 1, h => by rw [snI, h n (by omega), if_neg (by decide), snI_no (fun i hi => h i (by omega))]
theorem snI_c {P Q : Nat → Bool} {s0 : Int32} : ∀ {n : Nat}, (∀ i, i < n → P i = Q i) → snI P s0 n = snI Q s0 n
  | 0, _ => rfl
  | n + 1, h => by rw [snI, snI, h n (by omega), snI_c (fun i hi => h i (by omega))]
theorem fiO_end {T : xS} {s : Int32} {n L : Nat} (h : ∀ i, i < n → ∀ b, L < b → b ≤ 400 → ¬ inM T s (3 * nI i) = nI b) : ∀ {j : Nat}, L + 1 + j ≤ 401 → fiO T s n (L + 1 + j) = fiO T s n (L + 1)
  | 0, _ => rfl
  | j + 1, hj => by
    rw [show L + 1 + (j + 1) = L + 1 + j + 1 by omega, fiO_s, snI_no (fun i hi => ?_), fiO_end h (by omega)]
    unfold fiP
    rw [decide_eq_false (h i hi _ (by omega) (by omega)), Bool.false_and]
theorem snO_fiO {σ T : xS} {K n : Nat} {s : Int32} : ∀ {M : Nat}, (∀ b, b < M → ∀ i, i < n → snP σ K b i = fiP T s b i) → snO σ K n M = fiO T s n M
  | 0, _ => rfl
  | M + 1, h => by rw [snO_s, fiO_s, snI_c (fun i hi => h M (by omega) i hi), snO_fiO (fun b hb => h b (by omega))]
