/-! as both begin -/
def sX0 : xS := (fun a b => if (a = 100 ∨ a = 200 ∨ a = 300 ∨ a = 400) ∧ b = 5 then 1 else if (10 ≤ a ∧ a < 18) ∧ b = 0 then -1 else if a = 0 ∧ b = 10 then -1 else 0, fun _ _ => 0)
def sM0 : xS := (fun a c => if a = 0 ∧ c = 4 then 1 else if a = 0 ∧ c = 5 then -1 else if a = 29 then wdC c else 0, fun _ _ => 0)
theorem sX0_0 {a b : Nat} (h1 : ¬ ((a = 100 ∨ a = 200 ∨ a = 300 ∨ a = 400) ∧ b = 5)) (h2 : ¬ ((10 ≤ a ∧ a < 18) ∧ b = 0)) (h3 : ¬ (a = 0 ∧ b = 10)) : sX0.1 a b = 0 := by
  unfold sX0
  dsimp only
  rw [if_neg h1, if_neg h2, if_neg h3]
theorem sM0_0 {a c : Nat} (h1 : ¬ (a = 0 ∧ c = 4)) (h2 : ¬ (a = 0 ∧ c = 5)) (h3 : ¬ a = 29) : sM0.1 a c = 0 := by
  unfold sM0
  dsimp only
  rw [if_neg h1, if_neg h2, if_neg h3]
theorem ush_0 : ∀ p, p < 64 → ¬ (xlushr (0 : Int64) (nI p) &&& 1 = 1) := by decide +kernel
theorem RR0 : RRn 0 0 sX0 sM0 := by
  refine ⟨⟨⟨⟨⟨sX0_0 (by omega) (by omega) (by omega), sX0_0 (by omega) (by omega) (by omega)⟩, fun g hg => absurd hg (Nat.not_lt_zero _), fun w hw => absurd hw (Nat.not_lt_zero _), fun p hp => ?_⟩, ⟨⟨Nat.zero_le _, Nat.zero_le _, sM0_0 (by omega) (by omega) (by omega), sM0_0 (by omega) (by omega) (by omega)⟩, fun g hg => absurd hg (Nat.not_lt_zero _), fun w hw => absurd hw (Nat.not_lt_zero _), fun p hp => ⟨0, by omega, sM0_0 (by omega) (by omega) (by omega)⟩⟩⟩, ⟨?_, ?_, rfl⟩, fun p h1 h2 => ush_0 p h2⟩, fun s hs => ?_, fun k h1 h2 => ?_, rfl, ⟨?_, ?_, fun i hi hl => ?_⟩, Or.inl ⟨sX0_0 (by omega) (by omega) (by omega), sM0_0 (by omega) (by omega) (by omega)⟩, fun j hj => ?_⟩
  · rw [sM0_0 (by omega) (by omega) (by omega)]
    exact ⟨fun q => absurd q (ush_0 p (by omega)), fun q => absurd q (by decide)⟩
  · rw [sX0_0 (by omega) (by omega) (by omega), sM0_0 (by omega) (by omega) (by omega)]
  · rw [sX0_0 (by omega) (by omega) (by omega), sM0_0 (by omega) (by omega) (by omega)]
  · have e25 : sM0.1 25 s = 0 := sM0_0 (by omega) (by omega) (by omega)
    have e23 : sM0.1 23 s = 0 := sM0_0 (by omega) (by omega) (by omega)
    have x1 : sX0.1 (10 + s) 1 = 0 := sX0_0 (by omega) (by omega) (by omega)
    have x0 : sX0.1 (10 + s) 0 = -1 := by
      unfold sX0
      dsimp only
      rw [if_neg (by omega), if_pos (by omega)]
    unfold SHr
    rw [e25, e23, x1, x0]
    exact ⟨⟨by decide, by decide⟩, ⟨by decide, Or.inr rfl⟩, Or.inl ⟨rfl, rfl⟩⟩
  · rw [sX0_0 (by omega) (by omega) (by omega), sM0_0 (by omega) (by omega) (by omega)]
  · rw [sX0_0 (by omega) (by omega) (by omega), sM0_0 (by omega) (by omega) (by omega)]
  · rw [sM0_0 (by omega) (by omega) (by omega)]
    unfold rnP
    decide
  · rw [sX0_0 (by omega) (by omega) (by omega), sM0_0 (by omega) (by omega) (by omega)]
  · unfold sM0
    dsimp only
    rw [if_neg (by omega), if_neg (by omega), if_pos rfl]
