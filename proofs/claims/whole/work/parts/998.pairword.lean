/-! the readers, side by side: words -/
def qW (E : Nat) (ℓ : Nat → Int32) (a w k : Nat) : Bool := decide (¬ lC E ℓ (a + k) = wdC (pw w + k))
def mw (E : Nat) (ℓ : Nat → Int32) (a w : Nat) : Nat := xfs (qW E ℓ a w) (wl w - 1)
theorem xfs_cut {P Q : Nat → Bool} {n m : Nat} (h : ∀ k, k < m → P k = Q k) (hm : P m = true) (hn : m < n) : xfs P n = xfs Q m := by
  have hle := xfs_le Q m
  obtain ⟨b1, b2⟩ := xfs_b (P := Q) (n := m)
  rcases Nat.lt_or_ge (xfs Q m) m with z | z
  · exact xfs_at (by omega) ((h _ z).trans (b2 z)) (fun j hj => (h j (by omega)).trans (b1 j hj))
  · have e : xfs Q m = m := by omega
    rw [e] at b1 ⊢
    exact xfs_at hn hm (fun j hj => (h j hj).trans (b1 j hj))
theorem xfs_le_at {Q : Nat → Bool} {n k : Nat} (h : Q k = true) : xfs Q n ≤ k := by
  rcases Nat.lt_or_ge k (xfs Q n) with z | z
  · have := (xfs_b (P := Q) (n := n)).1 k z
    rw [h] at this
    exact absurd this (by decide)
  · exact z
theorem wcF : ∀ w, w < 5 → (tn (xln (wdK (nI w) - 910)) = wl w - 1 ∧ xln (wdK (nI w) - 910) = nI (wl w - 1) ∧ 5 ≤ wl w ∧ wl w ≤ 7) ∧ wdC (pw w + (wl w - 1)) = 32 ∧ wdC (pw w + wl w) = 0 ∧ ∀ k, k < wl w - 1 → xch (wdK (nI w) - 910) (nI k) = wdC (pw w + k) ∧ ¬ wdC (pw w + k) = -1 ∧ ¬ wdC (pw w + k) ≤ 32 ∧ ¬ wdC (pw w + k) = 0 := by decide +kernel
def dkF (w w' : Nat) : Nat := if (w = 1 ∧ w' = 3) ∨ (w = 3 ∧ w' = 1) then 3 else 0
theorem dkC : ∀ w, w < 5 → ∀ w', w' < 5 → w' ≠ w → dkF w w' < wl w - 1 ∧ dkF w w' < wl w' - 1 ∧ ¬ wdC (pw w + dkF w w') = wdC (pw w' + dkF w w') := by decide +kernel
theorem lC_lt' {E q : Nat} {ℓ : Nat → Int32} {c : Int32} (hc : ¬ c = -1) : (¬ q < E ∨ ¬ (lC E ℓ q = c)) ↔ ¬ lC E ℓ q = c := by
  constructor
  · rintro (h | h)
    · exact fun z => h (lC_lt z hc)
    · exact h
  · exact Or.inr
theorem excl {E a w w' : Nat} {ℓ : Nat → Int32} (hw : w < 5) (hw' : w' < 5) (hne : w' ≠ w) (hc : mw E ℓ a w = wl w - 1) : mw E ℓ a w' < wl w' - 1 ∧ mw E ℓ a w' ≤ wl w - 1 := by
  obtain ⟨k1, k2, k3⟩ := dkC w hw w' hw' hne
  have hq := (xfs_b (P := qW E ℓ a w) (n := wl w - 1)).1 (dkF w w') (by unfold mw at hc; omega)
  have hq := Classical.not_not.mp (of_decide_eq_false hq)
  have h2 : qW E ℓ a w' (dkF w w') = true := decide_eq_true (by rw [hq]; exact k3)
  have := xfs_le_at (n := wl w' - 1) h2
  unfold mw
  omega
/-! the class's words -/
theorem caN_c {E a w : Nat} {ℓ : Nat → Int32} {S : xS} (hE : E ≤ 160) (ha : a < 200) (hX : RdX E ℓ S) (hp : S.1 2 0 = nI a) (hw : w < 5) : waV S w = nI (mw E ℓ a w) := by
  obtain ⟨⟨e1, e2, e3, e4⟩, -, -, hk⟩ := wcF w hw
  unfold waV caV caN
  rw [e1]
  unfold mw
  rw [xfs_congr (fun k hk' => ?_)]
  unfold caA qW
  rw [hp, nI_add, lt_c hE (by omega) hX, (hk k hk').1]
theorem waE_c {E a w : Nat} {ℓ : Nat → Int32} {S : xS} (hE : E ≤ 160) (ha : a < 200) (hX : RdX E ℓ S) (hp : S.1 2 0 = nI a) (hw : w < 5) : waE S w = true ↔ mw E ℓ a w = wl w - 1 := by
  obtain ⟨⟨e1, e2, e3, e4⟩, -⟩ := wcF w hw
  have hle : mw E ℓ a w ≤ wl w - 1 := xfs_le _ _
  unfold waE
  rw [decide_eq_true_iff, caN_c hE ha hX hp hw, e2]
  exact nI_eq (by omega) (by omega)
/-! the reference's words -/
theorem wS_c {E b a w k : Nat} {ℓ : Nat → Int32} {T : xS} (hE : E ≤ 160) (hb : b ≤ 1120) (ha : a < 200) (hM : RdM E b ℓ T) (hp : T.1 0 33 = nI a) (hk : k < 10) (hc : ¬ wdC (pw w + k) = -1) : (¬ T.1 0 33 + nI k < T.1 0 34 ∨ ¬ lettA T (T.1 0 33 + nI k) = wdC (pw w + k)) ↔ ¬ lC E ℓ (a + k) = wdC (pw w + k) := by
  rw [hp, nI_add, hM.1, nI_ltI (by omega) (by omega)]
  by_cases h : a + k < E
  · rw [lettA_c hE hb h hM]
    exact ⟨fun z => z.resolve_left (fun y => y h), Or.inr⟩
  · exact ⟨fun _ z => h (lC_lt z hc), fun _ => Or.inl h⟩
theorem waN_c {E b a w : Nat} {ℓ : Nat → Int32} {T : xS} (hE : E ≤ 160) (hb : b ≤ 1120) (ha : a < 200) (hM : RdM E b ℓ T) (hp : T.1 0 33 = nI a) (hw : w < 5) : waN T w = mw E ℓ a w := by
  obtain ⟨⟨e1, e2, e3, e4⟩, f1, f2, hk⟩ := wcF w hw
  unfold waN mw
  refine xfs_cut (fun k hk' => ?_) ?_ (by omega)
  · obtain ⟨-, k1, k2, -⟩ := hk k hk'
    have := wS_c hE hb ha hM hp (show k < 10 by omega) k1
    unfold waS qW
    refine decide_eq_decide.mpr ⟨fun z => this.mp (z.resolve_left k2), fun z => Or.inr (this.mpr z)⟩
  · unfold waS
    exact decide_eq_true (Or.inl (by rw [f1]; decide))
theorem wmN_c {E b a w : Nat} {ℓ : Nat → Int32} {T : xS} (hE : E ≤ 160) (hb : b ≤ 1120) (ha : a < 200) (hM : RdM E b ℓ T) (hp : T.1 0 33 = nI a) (hw : w < 5) : wmN T w = xfs (qW E ℓ a w) (wl w) := by
  obtain ⟨⟨e1, e2, e3, e4⟩, f1, f2, hk⟩ := wcF w hw
  unfold wmN
  refine xfs_cut (fun k hk' => ?_) ?_ (by omega)
  · have kk : ¬ wdC (pw w + k) = -1 ∧ ¬ wdC (pw w + k) = 0 := by
      by_cases e : k = wl w - 1
      · rw [e, f1]; decide
      · have := hk k (by omega)
        exact ⟨this.2.1, this.2.2.2⟩
    have := wS_c hE hb ha hM hp (show k < 10 by omega) kk.1
    unfold wmS qW
    refine decide_eq_decide.mpr ⟨fun z => this.mp (z.resolve_left kk.2), fun z => Or.inr (this.mpr z)⟩
  · unfold wmS
    exact decide_eq_true (Or.inl f2)
theorem wmN_lt {E b a w : Nat} {ℓ : Nat → Int32} {T : xS} (hE : E ≤ 160) (hb : b ≤ 1120) (ha : a < 200) (hM : RdM E b ℓ T) (hp : T.1 0 33 = nI a) (hw : w < 5) (h : mw E ℓ a w < wl w - 1 ∨ ¬ lC E ℓ (a + (wl w - 1)) = 32) : wmN T w = mw E ℓ a w := by
  obtain ⟨⟨e1, e2, e3, e4⟩, f1, f2, hk⟩ := wcF w hw
  rw [wmN_c hE hb ha hM hp hw]
  have hle : mw E ℓ a w ≤ wl w - 1 := xfs_le _ _
  obtain ⟨b1, b2⟩ := xfs_b (P := qW E ℓ a w) (n := wl w - 1)
  rcases Nat.lt_or_ge (mw E ℓ a w) (wl w - 1) with z | z
  · exact xfs_at (i := mw E ℓ a w) (by omega) (b2 z) b1
  · have e : mw E ℓ a w = wl w - 1 := by omega
    refine xfs_at (i := mw E ℓ a w) (by omega) ?_ b1
    rw [e]
    unfold qW
    exact decide_eq_true (by rw [f1]; exact h.resolve_left (by omega))
theorem wmN_eq {E b a w : Nat} {ℓ : Nat → Int32} {T : xS} (hE : E ≤ 160) (hb : b ≤ 1120) (ha : a < 200) (hM : RdM E b ℓ T) (hp : T.1 0 33 = nI a) (hw : w < 5) (h : mw E ℓ a w = wl w - 1) (h32 : lC E ℓ (a + (wl w - 1)) = 32) : wmN T w = wl w := by
  obtain ⟨⟨e1, e2, e3, e4⟩, f1, f2, hk⟩ := wcF w hw
  rw [wmN_c hE hb ha hM hp hw]
  have b1 := (xfs_b (P := qW E ℓ a w) (n := wl w - 1)).1
  refine xfs_no (fun k hk' => ?_)
  by_cases e : k = wl w - 1
  · unfold qW
    exact decide_eq_false (not_not_intro (by rw [e, f1]; exact h32))
  · exact b1 k (by unfold mw at h; omega)
/-! how far the words go -/
def mx (f : Nat → Nat) : Nat → Nat
  | 0 => 0
  | i + 1 => max (mx f i) (f i)
theorem mx_c {f g : Nat → Nat} : ∀ {i : Nat}, (∀ w, w < i → f w = g w) → mx f i = mx g i
  | 0, _ => rfl
  | i + 1, h => by rw [mx, mx, mx_c (fun w hw => h w (by omega)), h i (by omega)]
theorem mx_le {f : Nat → Nat} {v : Nat} : ∀ {i : Nat}, (∀ w, w < i → f w ≤ v) → mx f i ≤ v
  | 0, _ => Nat.zero_le _
  | i + 1, h => by
    have := mx_le (fun w (hw : w < i) => h w (by omega))
    have := h i (by omega)
    rw [mx]
    omega
theorem mx_ge {f : Nat → Nat} : ∀ {i w : Nat}, w < i → f w ≤ mx f i
  | i + 1, w, h => by
    rw [mx]
    by_cases e : w = i
    · rw [e]; omega
    · have := mx_ge (f := f) (i := i) (w := w) (by omega)
      omega
theorem waM_c {f : Nat → Nat} {S : xS} : ∀ {i : Nat}, (∀ w, w < i → waV S w = nI (f w) ∧ f w < 100) → waM S i = nI (mx f i)
  | 0, _ => rfl
  | i + 1, h => by
    have ih := waM_c (fun w (hw : w < i) => h w (by omega))
    have hm : mx f i ≤ 100 := mx_le (fun w hw => by have := (h w (by omega)).2; omega)
    obtain ⟨e, hl⟩ := h i (by omega)
    rw [waM, ih, e, mx]
    have hc : nI (mx f i) < nI (f i) ↔ mx f i < f i := nI_ltI (by omega) (by omega)
    by_cases z : mx f i < f i
    · rw [if_pos (hc.mpr z), Nat.max_eq_right (by omega)]
    · rw [if_neg (fun q => z (hc.mp q)), Nat.max_eq_left (by omega)]
theorem faM_c {a : Nat} {T : xS} (ha : a < 1000) (hp : T.1 0 33 = nI a) : ∀ {i : Nat}, (∀ w, w < i → wmN T w < 100) → faM2 T i = nI (a + mx (wmN T) i)
  | 0, _ => by rw [faM2_0, hp]; rfl
  | i + 1, h => by
    have ih := faM_c ha hp (fun w (hw : w < i) => h w (by omega))
    have hm : mx (wmN T) i ≤ 100 := mx_le (fun w hw => by have := h w (by omega); omega)
    have hl := h i (by omega)
    rw [faM2_s, ih, hp, nI_add, mx]
    have hc : nI (a + mx (wmN T) i) < nI (a + wmN T i) ↔ mx (wmN T) i < wmN T i := (nI_ltI (by omega) (by omega)).trans (by omega)
    by_cases z : mx (wmN T) i < wmN T i
    · rw [if_pos (hc.mpr z), Nat.max_eq_right (by omega)]
    · rw [if_neg (fun q => z (hc.mp q)), Nat.max_eq_left (by omega)]
theorem wm_le {T : xS} {w : Nat} : wmN T w < 100 := Nat.lt_of_le_of_lt (xfs_le _ 8) (by omega)
/-- a word: class and reference -/
theorem WORD {E b a : Nat} {ℓ : Nat → Int32} {S T : xS} (hE : E ≤ 160) (hb : b ≤ 1120) (ha : a ≤ E) (hX : RdX E ℓ S) (hp : S.1 2 0 = nI a) (hM : RdM E b ℓ T) (hq : T.1 0 33 = nI a) : (rwV S = -1 ∧ (∀ w, w < 5 → waB T w = false) ∧ ∃ p, (rwS S).1 2 0 = nI p ∧ wrdM T = (-1, xI T 0 37 (nI p))) ∨ (∃ w, w < 5 ∧ rwV S = nI w ∧ (∀ w', w' < 5 → waB T w' = decide (w' = w)) ∧ (rwS S).1 2 0 = nI (a + (wl w - 1)) ∧ a + (wl w - 1) ≤ E ∧ ((lC E ℓ (a + (wl w - 1)) = 32 ∧ wrdM T = (nI w, xI T 0 33 (nI (a + wl w)))) ∨ (¬ lC E ℓ (a + (wl w - 1)) = 32 ∧ wrdM T = (-1, xI T 0 37 (nI (a + (wl w - 1))))))) := by
  have hwl : ∀ w, w < 5 → 5 ≤ wl w ∧ wl w ≤ 7 := fun w hw => (wcF w hw).1.2.2
  have hmw : ∀ w, w < 5 → mw E ℓ a w ≤ wl w - 1 := fun w _ => xfs_le _ _
  have hv : ∀ w, w < 5 → waV S w = nI (mw E ℓ a w) ∧ mw E ℓ a w < 100 := fun w hw => ⟨caN_c hE (by omega) hX hp hw, by have := hmw w hw; have := hwl w hw; omega⟩
  have hB : ∀ w, w < 5 → (waB T w = true ↔ mw E ℓ a w = wl w - 1) := fun w hw => by
    unfold waB
    rw [decide_eq_true_iff, waN_c hE hb (by omega) hM hq hw]
  have hfar := faM_c (T := T) (a := a) (by omega) hq (i := 5) (fun w _ => wm_le)
  obtain ⟨r1, r2⟩ := xfs_b (P := waE S) (n := 5)
  have rN : rwN S = xfs (waE S) 5 := rfl
  have hle5 := xfs_le (waE S) 5
  rcases Nat.lt_or_ge (xfs (waE S) 5) 5 with z | z
  · refine Or.inr ⟨xfs (waE S) 5, z, ?_⟩
    have hc := (waE_c hE (by omega) hX hp z).mp (r2 z)
    have eV : rwV S = nI (xfs (waE S) 5) := by unfold rwV; rw [rN, if_pos z]
    have eS : (rwS S).1 2 0 = nI (a + (wl (xfs (waE S) 5) - 1)) := by unfold rwS; rw [rN, if_pos z, xI_s, hp, (hv _ z).1, hc, nI_add]
    generalize xfs (waE S) 5 = w at *
    have hx : ∀ w', w' < 5 → w' ≠ w → mw E ℓ a w' < wl w' - 1 ∧ mw E ℓ a w' ≤ wl w - 1 := fun w' q1 q2 => excl z q1 q2 hc
    have hlast : a + (wl w - 1) ≤ E := by
      have hlt := hwl w z
      have hq2 := (xfs_b (P := qW E ℓ a w) (n := wl w - 1)).1 (wl w - 2) (by unfold mw at hc; omega)
      have hq2 := Classical.not_not.mp (of_decide_eq_false hq2)
      have := lC_lt hq2 ((wcF w z).2.2.2 (wl w - 2) (by omega)).2.1
      omega
    refine ⟨eV, fun w' hw' => ?_, eS, hlast, ?_⟩
    · by_cases e : w' = w
      · rw [e, decide_eq_true rfl]; exact (hB w z).mpr hc
      · rw [decide_eq_false e]
        exact bool_f (hB w' hw') (by have := hx w' hw' e; omega)
    · by_cases h32 : lC E ℓ (a + (wl w - 1)) = 32
      · refine Or.inl ⟨h32, ?_⟩
        have eE : xfs (wdE T) 5 = w := xfs_at z (by unfold wdE; exact decide_eq_true (wmN_eq hE hb (by omega) hM hq z hc h32)) (fun j hj => by
          have hj' := hx j (by omega) (by omega)
          unfold wdE
          refine decide_eq_false ?_
          rw [wmN_lt hE hb (by omega) hM hq (by omega) (Or.inl hj'.1)]
          omega)
        unfold wrdM wrdF
        rw [eE, if_pos z, hq, nI_add]
      · refine Or.inr ⟨h32, ?_⟩
        have em : ∀ w', w' < 5 → wmN T w' = mw E ℓ a w' := fun w' hw' => by
          by_cases e : w' = w
          · rw [e]; exact wmN_lt hE hb (by omega) hM hq z (Or.inr h32)
          · exact wmN_lt hE hb (by omega) hM hq hw' (Or.inl (hx w' hw' e).1)
        have eE : xfs (wdE T) 5 = 5 := xfs_no (fun j hj => by
          unfold wdE
          refine decide_eq_false ?_
          rw [em j hj]
          have := hwl j hj
          have := hmw j hj
          omega)
        have eX : mx (wmN T) 5 = wl w - 1 := by
          rw [mx_c em]
          have h1 := mx_ge (f := mw E ℓ a) (i := 5) z
          have h2 : mx (mw E ℓ a) 5 ≤ wl w - 1 := mx_le (fun w' hw' => by
            by_cases e : w' = w
            · rw [e]; omega
            · exact (hx w' hw' e).2)
          omega
        unfold wrdM wrdF
        rw [eE, if_neg (by omega), hfar, eX]
  · refine Or.inl ⟨?_, ?_, ?_⟩
    · unfold rwV; rw [rN, if_neg (by omega)]
    · exact fun w hw => bool_f (hB w hw) (fun q => by
        have := r1 w (by omega)
        rw [(waE_c hE (by omega) hX hp hw).mpr q] at this
        exact absurd this (by decide))
    · have hno : ∀ w, w < 5 → mw E ℓ a w < wl w - 1 := fun w hw => by
        have h1 := hmw w hw
        rcases Nat.lt_or_ge (mw E ℓ a w) (wl w - 1) with y | y
        · exact y
        · have := r1 w (by omega)
          rw [(waE_c hE (by omega) hX hp hw).mpr (by omega)] at this
          exact absurd this (by decide)
      have em : ∀ w', w' < 5 → wmN T w' = mw E ℓ a w' := fun w' hw' => wmN_lt hE hb (by omega) hM hq hw' (Or.inl (hno w' hw'))
      have eE : xfs (wdE T) 5 = 5 := xfs_no (fun j hj => by
        unfold wdE
        refine decide_eq_false ?_
        rw [em j hj]
        have := hno j hj
        omega)
      refine ⟨a + mx (mw E ℓ a) 5, ?_, ?_⟩
      · unfold rwS
        rw [rN, if_neg (by omega), xI_s, hp, waM_c hv, nI_add]
      · unfold wrdM wrdF
        rw [eE, if_neg (by omega), hfar, mx_c em]
