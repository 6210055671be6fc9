/-! loops that count, and what they find -/
section XFOR
variable {w : xD} {nL : Nat} {fld : Nat → Option (Nat × Nat × Nat)} {cal : Nat → Option xCall} {ks : Nat → Option Value} {gs : Nat → Option Nat} {ro : Nat → Option (Nat × (Nat → Int32))} {rb : Nat} {cc : ByteArray} {Rt : Option Value → xS → Prop}
theorem xfor (h n N : Nat) (Lf : Nat → xL) (σf : Nat → xS) (Hf : Nat → Prop) (hs : ∀ i, i ≤ n → Hf i → xws w nL fld cal ks gs ro rb cc (xcut1 h (fun L st σ => i < n ∧ Hf (i + 1) ∧ L = Lf (i + 1) ∧ st = [] ∧ σ = σf (i + 1))) Rt N h (Lf i) [] (σf i)) : ∀ i, i ≤ n → Hf i → xGo w nL fld cal ks gs ro rb cc Rt h (Lf i) [] (σf i) := by
  have key : ∀ k i, n - i = k → i ≤ n → Hf i → xGo w nL fld cal ks gs ro rb cc Rt h (Lf i) [] (σf i) := by
    intro k
    induction k with
    | zero =>
      intro i hk hi hH
      refine xws_go (cut := xcut1 h (fun L st σ => i < n ∧ Hf (i + 1) ∧ L = Lf (i + 1) ∧ st = [] ∧ σ = σf (i + 1))) ?_ N h (Lf i) [] (σf i) (hs i hi hH)
      intro pc' P' hP' L' st' σ' hp
      unfold xcut1 at hP'
      split at hP'
      · cases hP'
        obtain ⟨hlt, -⟩ := hp
        omega
      · cases hP'
    | succ k ih =>
      intro i hk hi hH
      refine xws_go (cut := xcut1 h (fun L st σ => i < n ∧ Hf (i + 1) ∧ L = Lf (i + 1) ∧ st = [] ∧ σ = σf (i + 1))) ?_ N h (Lf i) [] (σf i) (hs i hi hH)
      intro pc' P' hP' L' st' σ' hp
      unfold xcut1 at hP'
      split at hP'
      · rename_i hm
        cases hP'
        obtain ⟨hlt, hH', rfl, rfl, rfl⟩ := hp
        rw [hm]
        exact ih (i + 1) (by omega) (by omega) hH'
      · cases hP'
  exact fun i hi hH => key (n - i) i rfl hi hH
/-- to a loop's head, and the loop -/
theorem xfor0 (h n N N0 : Nat) (Lf : Nat → xL) (σf : Nat → xS) (Hf : Nat → Prop) {pc : Nat} {L : xL} {st : List Value} {σ : xS} (h0 : Hf 0) (hs : ∀ i, i ≤ n → Hf i → xws w nL fld cal ks gs ro rb cc (xcut1 h (fun L st σ => i < n ∧ Hf (i + 1) ∧ L = Lf (i + 1) ∧ st = [] ∧ σ = σf (i + 1))) Rt N h (Lf i) [] (σf i)) (he : xwp w nL fld cal ks gs ro rb cc (xcut1 h (fun L st σ => L = Lf 0 ∧ st = [] ∧ σ = σf 0)) Rt N0 pc L st σ) : xGo w nL fld cal ks gs ro rb cc Rt pc L st σ :=
  xto h (fun L st σ => L = Lf 0 ∧ st = [] ∧ σ = σf 0) N0 (by
    rintro L st σ ⟨rfl, rfl, rfl⟩
    exact xfor h n N Lf σf Hf hs 0 (Nat.zero_le n) h0) he
end XFOR
def xany (P : Nat → Bool) : Nat → Bool
  | 0 => false
  | n + 1 => xany P n || P n
def xbits (P : Nat → Bool) : Nat → Int32
  | 0 => 0
  | n + 1 => if P n then xbits P n ||| xshl 1 (nI n) else xbits P n
def xfs (P : Nat → Bool) : Nat → Nat
  | 0 => 0
  | n + 1 => if xfs P n < n then xfs P n else if P n then n else n + 1
def xcnt (P : Nat → Bool) : Nat → Nat
  | 0 => 0
  | n + 1 => if P n then xcnt P n + 1 else xcnt P n
theorem xany_iff {P : Nat → Bool} {n : Nat} : xany P n = true ↔ ∃ i, i < n ∧ P i = true := by
  induction n with
  | zero => simp [xany]
  | succ n ih =>
    rw [xany, Bool.or_eq_true, ih]
    constructor
    · rintro (⟨i, h1, h2⟩ | h)
      · exact ⟨i, by omega, h2⟩
      · exact ⟨n, by omega, h⟩
    · rintro ⟨i, h1, h2⟩
      by_cases e : i = n
      · subst e; exact Or.inr h2
      · exact Or.inl ⟨i, by omega, h2⟩
theorem xany_f {P : Nat → Bool} {n : Nat} (h : ∀ i, i < n → P i = false) : xany P n = false := by
  cases e : xany P n with
  | false => rfl
  | true =>
    obtain ⟨i, h1, h2⟩ := xany_iff.mp e
    rw [h i h1] at h2
    cases h2
theorem xany_t {P : Nat → Bool} {n i : Nat} (h : i < n) (hp : P i = true) : xany P n = true := xany_iff.mpr ⟨i, h, hp⟩
theorem xfs_le (P : Nat → Bool) : ∀ n, xfs P n ≤ n
  | 0 => Nat.le_refl 0
  | n + 1 => by
    have ih := xfs_le P n
    unfold xfs
    split
    · omega
    · split <;> omega
theorem xfs_no {P : Nat → Bool} {n : Nat} (h : ∀ i, i < n → P i = false) : xfs P n = n := by
  induction n with
  | zero => rfl
  | succ n ih =>
    have e := ih (fun i hi => h i (by omega))
    unfold xfs
    rw [e, if_neg (Nat.lt_irrefl n), h n (by omega)]
    rfl
theorem xfs_at {P : Nat → Bool} {n i : Nat} (hi : i < n) (hp : P i = true) (h : ∀ j, j < i → P j = false) : xfs P n = i := by
  induction n with
  | zero => omega
  | succ n ih =>
    unfold xfs
    by_cases e : i = n
    · subst e
      rw [xfs_no h, if_neg (Nat.lt_irrefl i), hp]
      rfl
    · rw [ih (by omega), if_pos (by omega)]
/-- a whole number as a bound -/
def tn (x : Int32) : Nat := x.toNatClampNeg
theorem tn_def (x : Int32) : x.toNatClampNeg = tn x := rfl
theorem tn_lt31 (x : Int32) : tn x < 2 ^ 31 := by
  have h := Int32.toInt_lt x
  show x.toInt.toNat < 2 ^ 31
  omega
theorem tn_nI {i : Nat} (h : i < 2 ^ 31) : tn (nI i) = i := nI_clamp h
theorem nI_lt_tn {i : Nat} {x : Int32} (h : i ≤ tn x) : nI i < x ↔ i < tn x := by
  have h31 := tn_lt31 x
  have h1 : (nI i).toInt = (i : Int) := nI_toInt (by omega)
  rw [Int32.lt_iff_toInt_lt, h1]
  show (i : Int) < x.toInt ↔ i < x.toInt.toNat
  have h2 : i ≤ x.toInt.toNat := h
  omega
theorem le_nI_tn {i : Nat} {x : Int32} (h : i ≤ tn x) : x ≤ nI i ↔ ¬ i < tn x := by
  rw [← Int32.not_lt, nI_lt_tn h]
theorem tn_of {x : Int32} (h : 0 ≤ x) : nI (tn x) = x := by
  have h0 : (0 : Int) ≤ x.toInt := by simpa using Int32.le_iff_toInt_le.mp h
  rw [← Int32.toInt_inj, nI_toInt (tn_lt31 x)]
  show ((x.toInt.toNat : Nat) : Int) = x.toInt
  omega
theorem tn_neg {x : Int32} (h : ¬ 0 ≤ x) : tn x = 0 := by
  have h0 : ¬ (0 : Int) ≤ x.toInt := fun q => h (Int32.le_iff_toInt_le.mpr (by simpa using q))
  show x.toInt.toNat = 0
  omega
theorem vp_tn {x : Int32} {n : Nat} : vp_in x n ↔ 0 ≤ x ∧ tn x < n := by
  unfold vp_in
  rw [not_or, Int32.not_lt, Nat.not_le]
  rfl
theorem vp_nI {i n : Nat} (h : i < n) (hn : n < 2 ^ 31) : vp_in (nI i) n := vp_in_nI h hn
theorem lgc {x y : Int64} : (lg_cmp x y = 0) = (x = y) := by
  apply propext
  unfold lg_cmp
  split
  · rename_i h
    constructor
    · intro q; exact absurd q (by decide)
    · rintro rfl; exact absurd h (Int64.lt_irrefl)
  · split
    · rename_i h1 h2; simp [h2]
    · rename_i h1 h2
      constructor
      · intro q; exact absurd q (by decide)
      · intro q; exact absurd q h2
