/-! loops one behind another: a second head that is known already -/
def xcut2 (h : Nat) (P : xL → List Value → xS → Prop) (h' : Nat) (P' : xL → List Value → xS → Prop) : Nat → Option (xL → List Value → xS → Prop) := fun pc => if pc = h then some P else if pc = h' then some P' else none
section XFOR2
variable {w : xD} {nL : Nat} {fld : Nat → Option (Nat × Nat × Nat)} {cal : Nat → Option xCall} {ks : Nat → Option Value} {gs : Nat → Option Nat} {ro : Nat → Option (Nat × (Nat → Int32))} {rb : Nat} {cc : ByteArray} {Rt : Option Value → xS → Prop}
theorem xwp_2 {n pc : Nat} {L : xL} {st : List Value} {σ : xS} {h h' : Nat} {P P' : xL → List Value → xS → Prop} : xwp w nL fld cal ks gs ro rb cc (xcut2 h P h' P') Rt (n + 1) pc L st σ = if pc = h then P L st σ else if pc = h' then P' L st σ else xdd (decode cc pc) (fun i len => xst w nL fld cal ks gs ro rb i len pc (xwp w nL fld cal ks gs ro rb cc (xcut2 h P h' P') Rt n) Rt L st σ) := by
  rw [xwp_s, xcut2]
  by_cases e : pc = h
  · rw [if_pos e, if_pos e]; rfl
  · rw [if_neg e, if_neg e]
    by_cases e' : pc = h'
    · rw [if_pos e', if_pos e']; rfl
    · rw [if_neg e', if_neg e']; rfl
theorem xcut2_go {h h' : Nat} {P P' : xL → List Value → xS → Prop} (hP : ∀ L st σ, P L st σ → xGo w nL fld cal ks gs ro rb cc Rt h L st σ) (hP' : ∀ L st σ, P' L st σ → xGo w nL fld cal ks gs ro rb cc Rt h' L st σ) : ∀ pc Pc, xcut2 h P h' P' pc = some Pc → ∀ L st σ, Pc L st σ → xGo w nL fld cal ks gs ro rb cc Rt pc L st σ := by
  intro pc Pc hc L st σ hp
  unfold xcut2 at hc
  split at hc
  · rename_i e; cases hc; rw [e]; exact hP L st σ hp
  · split at hc
    · rename_i e; cases hc; rw [e]; exact hP' L st σ hp
    · cases hc
/-- a loop whose way out leads to a known place -/
theorem xfor2 (h h' n N : Nat) (P' : xL → List Value → xS → Prop) (hP' : ∀ L st σ, P' L st σ → xGo w nL fld cal ks gs ro rb cc Rt h' L st σ) (Lf : Nat → xL) (σf : Nat → xS) (Hf : Nat → Prop) (hs : ∀ i, i ≤ n → Hf i → xws w nL fld cal ks gs ro rb cc (xcut2 h (fun L st σ => i < n ∧ Hf (i + 1) ∧ L = Lf (i + 1) ∧ st = [] ∧ σ = σf (i + 1)) h' P') Rt N h (Lf i) [] (σf i)) : ∀ i, i ≤ n → Hf i → xGo w nL fld cal ks gs ro rb cc Rt h (Lf i) [] (σf i) := by
  have key : ∀ k i, n - i = k → i ≤ n → Hf i → xGo w nL fld cal ks gs ro rb cc Rt h (Lf i) [] (σf i) := by
    intro k
    induction k with
    | zero =>
      intro i hk hi hH
      exact xws_go (xcut2_go (fun L st σ hp => by have := hp.1; omega) hP') N h (Lf i) [] (σf i) (hs i hi hH)
    | succ k ih =>
      intro i hk hi hH
      refine xws_go (xcut2_go (fun L st σ hp => ?_) hP') N h (Lf i) [] (σf i) (hs i hi hH)
      obtain ⟨hlt, hH', rfl, rfl, rfl⟩ := hp
      exact ih (i + 1) (by omega) (by omega) hH'
  exact fun i hi hH => key (n - i) i rfl hi hH
/-- a measured loop, its state as it comes: an invariant -/
theorem xinv (h N : Nat) (I : Nat → xL → List Value → xS → Prop) (h' : Nat) (P' : xL → List Value → xS → Prop) (hP' : ∀ L st σ, P' L st σ → xGo w nL fld cal ks gs ro rb cc Rt h' L st σ) (hs : ∀ k L st σ, I k L st σ → xws w nL fld cal ks gs ro rb cc (xcut2 h (fun L st σ => ∃ j, j < k ∧ I j L st σ) h' P') Rt N h L st σ) : ∀ k L st σ, I k L st σ → xGo w nL fld cal ks gs ro rb cc Rt h L st σ := by
  intro k
  induction k using Nat.strongRecOn with
  | ind k ih =>
    intro L st σ hI
    refine xws_go (xcut2_go (fun L' st' σ' hp => ?_) hP') N h L st σ (hs k L st σ hI)
    obtain ⟨j, h1, h2⟩ := hp
    exact ih j h1 L' st' σ' h2
end XFOR2
theorem xob_ne {w : xD} {a b c c' : Nat} (h : xob w a c) (h' : xob w b c') (hc : c ≠ c') : a ≠ b := by
  intro e
  rw [e] at h
  have := h.2.symm.trans h'.2
  omega
