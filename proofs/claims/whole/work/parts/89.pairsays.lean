/-! what a walker says -/
def f6 (a b c d e f : Bool) : Nat → Bool
  | 0 => a
  | 1 => b
  | 2 => c
  | 3 => d
  | 4 => e
  | _ => f
theorem bc_6 : ∀ n, n < 7 → ∀ a b c d e f : Bool, bc32 (xbits (f6 a b c d e f) n) = nI (xcnt (f6 a b c d e f) n) := by decide +kernel
theorem bc_n {P : Nat → Bool} {n : Nat} (hn : n ≤ 6) : bc32 (xbits P n) = nI (xcnt P n) := by
  have h : ∀ j, j < n → P j = f6 (P 0) (P 1) (P 2) (P 3) (P 4) (P 5) j := fun j hj => by
    have : j = 0 ∨ j = 1 ∨ j = 2 ∨ j = 3 ∨ j = 4 ∨ j = 5 := by omega
    rcases this with rfl | rfl | rfl | rfl | rfl | rfl <;> rfl
  rw [xbits_congr h, xcnt_congr h]
  exact bc_6 n (by omega) _ _ _ _ _ _
theorem xcnt_but {P Q : Nat → Bool} {x : Nat} (hx : P x = true) (hq : ∀ j, Q j = (decide (j ≠ x) && P j)) : ∀ {n : Nat}, xcnt P n = xcnt Q n + (if x < n then 1 else 0)
  | 0 => rfl
  | n + 1 => by
    rw [xcnt, xcnt, xcnt_but hx hq, hq n]
    by_cases e : n = x
    · subst e
      simp [hx]
    · rw [decide_eq_true e, Bool.true_and]
      by_cases hp : P n = true
      · rw [if_pos hp, if_pos hp]
        by_cases l : x < n
        · rw [if_pos l, if_pos (by omega)]
        · rw [if_neg l, if_neg (by omega)]
      · rw [if_neg hp, if_neg hp]
        by_cases l : x < n
        · rw [if_pos l, if_pos (by omega)]
        · rw [if_neg l, if_neg (by omega)]
theorem bs_sym : ∀ p, p < 49 → ∀ q, q < 49 → bsM (nI q) (nI p) = bsM (nI p) (nI q) := by decide +kernel
theorem bs_no : ∀ p, p < 49 → ¬ bsM (nI p) (nI p) = 1 := by decide +kernel
theorem says_eq {G N x : Nat} {σ τ : xS} (h : RRn G N σ τ) (hx : x < N) (k : Int32) (hk : 0 ≤ k ∧ k ≤ 6) : sayX σ 100 (nI x) k = syV τ (nI x) k := by
  obtain ⟨⟨hG, hN⟩, ⟨c1, c2⟩, ⟨c3, c4⟩⟩ := RRn_G h
  have hk' := h.1.1.1.2.2.1
  have hw := h.1.1.2.2.2.1
  obtain ⟨k', hk6, rfl⟩ := rle (k := 6) (by omega) hk
  obtain ⟨k0, k1, k2, k3, k4, k5, k6⟩ := hk' x hx
  unfold sayX syV
  rw [whoK_n (by omega), c1, c2, c3, c4, tn_nI (by omega), tn_nI (by omega)]
  have cc : k' = 0 ∨ k' = 1 ∨ k' = 2 ∨ k' = 3 ∨ k' = 4 ∨ k' = 5 ∨ k' = 6 := by omega
  rcases cc with rfl | rfl | rfl | rfl | rfl | rfl | rfl
  · simp (decide := true) only [if_true, if_false]; exact k3
  · simp (decide := true) only [if_true, if_false]
    rw [bc_n hN]
    unfold syN
    have e1 : xcnt (fun i => decide (σ.1 (100 + 20 + i) 3 = σ.1 (100 + 20 + x) 3)) N = xcnt (fun i => decide (τ.1 15 i = τ.1 15 x)) N := xcnt_congr (fun j hj => by rw [(hk' j hj).2.2.2.1, k3])
    have e2 : xcnt (syP τ (nI x) (nI 1)) N = xcnt (fun i => decide (i ≠ x) && decide (τ.1 15 i = τ.1 15 x)) N := xcnt_congr (fun j hj => by
      unfold syP
      rw [if_pos (show nI 1 = 1 from rfl), tn_nI (by omega)]
      have hj' : (nI j = nI x) = (j = x) := propext (nI_eq (by omega) (by omega))
      simp only [hj']
      by_cases e : j = x <;> simp [e])
    rw [e1, e2, xcnt_but (P := fun i => decide (τ.1 15 i = τ.1 15 x)) (x := x) (decide_eq_true rfl) (fun j => rfl), if_pos hx, ← nI_1, Int32.add_sub_cancel]
  · simp (decide := true) only [if_true, if_false, or_true]
    unfold nOth syN
    refine congrArg nI (xcnt_congr (fun j hj => ?_))
    unfold cOth syP
    rw [if_neg (show ¬ nI 2 = 1 by decide), if_pos (show nI 2 = 2 from rfl)]
    refine decide_eq_decide.mpr ?_
    rw [if_pos rfl, whoK_n (by omega), tn_nI (by omega), (hk' j hj).2.1, k1]
    exact ⟨fun q => ⟨q.1, q.2.symm⟩, fun q => ⟨q.1, q.2.symm⟩⟩
  · simp (decide := true) only [if_true, if_false]; exact k4
  · simp (decide := true) only [if_true, if_false]; exact k5
  · simp (decide := true) only [if_true, if_false, or_true]
    unfold nOth syN
    refine congrArg nI (xcnt_congr (fun j hj => ?_))
    unfold cOth syP
    rw [if_neg (show ¬ nI 5 = 1 by decide), if_neg (show ¬ nI 5 = 2 by decide)]
    refine decide_eq_decide.mpr ?_
    obtain ⟨_, p, _, _, _, _, ⟨_, hp, _⟩, _, ep, _⟩ := hw x hx
    obtain ⟨_, q, _, _, _, _, ⟨_, hq, _⟩, _, eq, _⟩ := hw j hj
    rw [if_neg (show ¬ (1 : Int32) = 0 by decide), whoK_n (by omega), tn_nI (by omega), (hk' j hj).2.1, k1, ep, eq, beside_ok p hp q hq, bs_sym p hp q hq]
    refine ⟨fun z => z.2, fun z => ⟨fun e => ?_, z⟩⟩
    have e' : j = x := (nI_eq (by omega) (by omega)).mp e
    have e2 : nI q = nI p := by rw [← eq, ← ep, e']
    rw [e2] at z
    exact bs_no p hp z
  · simp (decide := true) only [if_true, if_false]; rw [k3]
