/-! how many meet: counted by the last one there, or by the first -/
def pnN (e : Nat → Nat → Bool) (N i : Nat) : Nat := if xfs (fun j => e (oth N i j) i) (N - 1) < N - 1 then oth N i (xfs (fun j => e (oth N i j) i) (N - 1)) else N
def lqE (e : Nat → Nat → Bool) (N w : Nat) : Bool := decide (pnN e N w < w)
def fqE (e : Nat → Nat → Bool) (N w : Nat) : Bool := decide (pnN e N w < N) && !(xany (fun v => e v w) w)
def cLl (a : List Nat) (i j : Nat) : Bool := decide (a.getD i 0 = a.getD j 0)
theorem cnt_all : ∀ N, N < 7 → ∀ a1, a1 < (if 1 < N then 2 else 1) → ∀ a2, a2 < (if 2 < N then 3 else 1) → ∀ a3, a3 < (if 3 < N then 4 else 1) → ∀ a4, a4 < (if 4 < N then 5 else 1) → ∀ a5, a5 < (if 5 < N then 6 else 1) → xcnt (lqE (cLl [0, a1, a2, a3, a4, a5]) N) N = xcnt (fqE (cLl [0, a1, a2, a3, a4, a5]) N) N := by decide +kernel
theorem xany_congr {P Q : Nat → Bool} : ∀ {n : Nat}, (∀ j, j < n → P j = Q j) → xany P n = xany Q n
  | 0, _ => rfl
  | n + 1, h => by rw [xany, xany, xany_congr (P := P) (Q := Q) (n := n) (fun j hj => h j (by omega)), h n (by omega)]
theorem xcnt_congr {P Q : Nat → Bool} : ∀ {n : Nat}, (∀ j, j < n → P j = Q j) → xcnt P n = xcnt Q n
  | 0, _ => rfl
  | n + 1, h => by rw [xcnt, xcnt, xcnt_congr (P := P) (Q := Q) (n := n) (fun j hj => h j (by omega)), h n (by omega)]
theorem xbits_congr {P Q : Nat → Bool} : ∀ {n : Nat}, (∀ j, j < n → P j = Q j) → xbits P n = xbits Q n
  | 0, _ => rfl
  | n + 1, h => by rw [xbits, xbits, xbits_congr (P := P) (Q := Q) (n := n) (fun j hj => h j (by omega)), h n (by omega)]
theorem pnN_congr {e e' : Nat → Nat → Bool} {N w : Nat} (h : ∀ i j, i < N → j < N → e i j = e' i j) (hw : w < N) : pnN e N w = pnN e' N w := by
  have hx : xfs (fun j => e (oth N w j) w) (N - 1) = xfs (fun j => e' (oth N w j) w) (N - 1) := xfs_congr (fun j hj => h _ _ (oth_lt hw (by omega)) hw)
  unfold pnN
  rw [hx]
theorem lq_congr {e e' : Nat → Nat → Bool} {N : Nat} (h : ∀ i j, i < N → j < N → e i j = e' i j) : xcnt (lqE e N) N = xcnt (lqE e' N) N := xcnt_congr (fun w hw => by unfold lqE; rw [pnN_congr h hw])
theorem fq_congr {e e' : Nat → Nat → Bool} {N : Nat} (h : ∀ i j, i < N → j < N → e i j = e' i j) : xcnt (fqE e N) N = xcnt (fqE e' N) N := xcnt_congr (fun w hw => by
  unfold fqE
  rw [pnN_congr h hw, xany_congr (fun v hv => h v w (by omega) hw)])
def cfs (P : Nat → Int32) (w : Nat) : Nat := xfs (fun v => decide (P v = P w)) w
theorem cfs_P (P : Nat → Int32) (w : Nat) : P (cfs P w) = P w := by
  have hle := xfs_le (fun v => decide (P v = P w)) w
  by_cases h : cfs P w < w
  · exact of_decide_eq_true ((xfs_b (P := fun v => decide (P v = P w)) (n := w)).2 h)
  · have : cfs P w = w := by unfold cfs at *; omega
    rw [this]
theorem cfs_m (P : Nat → Int32) (w v : Nat) (h : v < cfs P w) : ¬ P v = P w := of_decide_eq_false ((xfs_b (P := fun v => decide (P v = P w)) (n := w)).1 v h)
theorem cfs_e (P : Nat → Int32) (i j : Nat) : P i = P j ↔ cfs P i = cfs P j := by
  constructor
  · intro h
    rcases Nat.lt_trichotomy (cfs P i) (cfs P j) with h1 | h1 | h1
    · exact absurd ((cfs_P P i).trans h) (cfs_m P j _ h1)
    · exact h1
    · exact absurd ((cfs_P P j).trans h.symm) (cfs_m P i _ h1)
  · intro h
    rw [← cfs_P P i, h, cfs_P P j]
theorem places_cnt (P : Nat → Int32) {N : Nat} (hN : N ≤ 6) : xcnt (lqE (fun v w => decide (P v = P w)) N) N = xcnt (fqE (fun v w => decide (P v = P w)) N) N := by
  have hl := fun w => xfs_le (fun v => decide (P v = P w)) w
  have hl : ∀ w, cfs P w ≤ w := hl
  have l1 := hl 1
  have l2 := hl 2
  have l3 := hl 3
  have l4 := hl 4
  have l5 := hl 5
  have h0 : cfs P 0 = 0 := by have := hl 0; omega
  have key := cnt_all N (by omega) (if 1 < N then cfs P 1 else 0) (by split <;> omega) (if 2 < N then cfs P 2 else 0) (by split <;> omega) (if 3 < N then cfs P 3 else 0) (by split <;> omega) (if 4 < N then cfs P 4 else 0) (by split <;> omega) (if 5 < N then cfs P 5 else 0) (by split <;> omega)
  have hg : ∀ i, i < N → [0, (if 1 < N then cfs P 1 else 0), (if 2 < N then cfs P 2 else 0), (if 3 < N then cfs P 3 else 0), (if 4 < N then cfs P 4 else 0), (if 5 < N then cfs P 5 else 0)].getD i 0 = cfs P i := by
    intro i hi
    match i, hi with
    | 0, _ => exact h0.symm
    | 1, hi => exact if_pos hi
    | 2, hi => exact if_pos hi
    | 3, hi => exact if_pos hi
    | 4, hi => exact if_pos hi
    | 5, hi => exact if_pos hi
    | n + 6, hi => omega
  have he : ∀ i j, i < N → j < N → (fun v w => decide (P v = P w)) i j = cLl [0, (if 1 < N then cfs P 1 else 0), (if 2 < N then cfs P 2 else 0), (if 3 < N then cfs P 3 else 0), (if 4 < N then cfs P 4 else 0), (if 5 < N then cfs P 5 else 0)] i j := by
    intro i j hi hj
    unfold cLl
    rw [hg i hi, hg j hj]
    exact decide_eq_decide.mpr (cfs_e P i j)
  rw [lq_congr he, fq_congr he]
  exact key
theorem nx_pn {τ : xS} {N i : Nat} (hi : i < N) (hN : N ≤ 6) : (nxN τ N i = -1 ∧ pnN (fun v w => decide (τ.1 13 v = τ.1 13 w)) N i = N) ∨ (nxN τ N i = nI (pnN (fun v w => decide (τ.1 13 v = τ.1 13 w)) N i) ∧ pnN (fun v w => decide (τ.1 13 v = τ.1 13 w)) N i < N) := by
  unfold nxN pnN
  have e : nxP τ N i = fun j => decide (τ.1 13 (oth N i j) = τ.1 13 i) := rfl
  rw [e]
  dsimp only
  split
  · rename_i h
    exact Or.inr ⟨rfl, oth_lt hi (by omega)⟩
  · exact Or.inl ⟨rfl, rfl⟩
theorem met_ok {B G N : Nat} {σ τ : xS} (hT : TW B G N σ τ.1) (hW : WF G N τ.1) : metX B σ = mcM τ := by
  have hN6 := hW.1.2.1
  have hb : tn (σ.1 B 2) = N := by rw [hT.1.2, tn_nI (by omega)]
  have hm : tn (τ.1 0 1) = N := by rw [hW.1.2.2.2, tn_nI (by omega)]
  obtain ⟨t1, w1, r1⟩ := ph1 hT hW N (Nat.le_refl _)
  have u1 : beT1 τ = hsM (dm1 N τ) := by unfold beT1; rw [hm]
  unfold metX mcM
  rw [hb, hm, u1]
  have hc1 := fun w hw => hsM_c (τ := dm1 N τ) hN6 w1.1.2.2.2 (w := w) hw
  have ho1 : ∀ a c, a ≤ 17 → (hsM (dm1 N τ)).1 a c = (dm1 N τ).1 a c := fun a c h => hsM_o (by omega)
  have i2 : I2 B G N 0 (st1 B N σ) (hsM (dm1 N τ)) := by
    refine ⟨⟨TW_v (fun a c _ h => ho1 a c (by omega)) (fun a w _ h _ => ho1 a w h) t1, WF_v ⟨ho1 _ _ (by omega), ho1 _ _ (by omega)⟩ (fun a c _ h => ho1 a c (by omega)) (fun a w _ h _ => ho1 a w h) w1⟩, ⟨fun w hw => ?_, fun w hw => ?_⟩, ⟨fun w _ hw => ?_, fun w hw _ => ?_⟩, fun w hw => absurd hw (by omega)⟩
    · obtain ⟨a1, a2, a3, a4⟩ := hc1 w hw
      obtain ⟨b1, b2, b3, b4⟩ := r1 w hw
      exact ⟨b1.trans a2.symm, b2.trans a3.symm, b3.trans a1.symm, b4.trans a4.symm⟩
    · obtain ⟨a1, a2, a3, a4⟩ := hc1 w hw
      obtain ⟨k, p, d, g, q, t, ⟨b1, b2, b3, b4, b5, b6⟩, e1, e2, e3, e4, e5, e6⟩ := w1.2.2.1 w hw
      exact ⟨g, q, d, t, ⟨b4, by rw [ho1 8 _ (by omega)]; exact b5, b3, b6⟩, a2.trans e4, a3.trans e5, a1.trans e3, a4.trans e6⟩
    · obtain ⟨a1, a2, a3, a4⟩ := hc1 w hw
      rw [ho1 15 _ (by omega)]
      exact a2.symm
    · obtain ⟨a1, a2, a3, a4⟩ := hc1 w hw
      rw [ho1 15 _ (by omega), ho1 16 _ (by omega), ho1 17 _ (by omega)]
      exact ⟨a2.symm, a3.symm, a4.symm⟩
  generalize st1 B N σ = S at *
  generalize hsM (dm1 N τ) = U at *
  have hpl : ∀ i c, (pm2 i U).1 13 c = U.1 13 c := fun i c => pm2_o (by omega)
  have key : ∀ i, i ≤ N → mt2 B i S = nI (xcnt (lqE (fun v w => decide (U.1 13 v = U.1 13 w)) N) i) ∧ cm2 i U = nI (xcnt (fqE (fun v w => decide (U.1 13 v = U.1 13 w)) N) i) := by
    intro i
    induction i with
    | zero => exact fun _ => ⟨rfl, rfl⟩
    | succ i ih =>
      intro hi
      obtain ⟨ih1, ih2⟩ := ih (by omega)
      have j2 := ph2 i2 i (by omega)
      have e2 := j2.1.1.1.2
      have v1 := j2.1.2.1.2.2.2
      have ex : nxt (st2 B i S) B (nI i) = nxN (pm2 i U) N i := by
        unfold nxt
        rw [e2, tn_nI (by omega), tn_nI (by omega)]
        exact nx_eq j2.1.1 (by omega)
      have ey : nxM (pm2 i U) (nI i) = nxN (pm2 i U) N i := by unfold nxM; rw [v1, tn_nI (by omega), tn_nI (by omega)]
      have ee : (fun v w => decide ((pm2 i U).1 13 v = (pm2 i U).1 13 w)) = (fun v w => decide (U.1 13 v = U.1 13 w)) := by
        funext v w
        rw [hpl, hpl]
      have hx := nx_pn (τ := pm2 i U) (show i < N by omega) hN6
      rw [ee] at hx
      have ef : fsV (pm2 i U) i i = if xany (fun v => decide (U.1 13 v = U.1 13 i)) i = true then 0 else 1 := by
        have : fsP (pm2 i U) i = fun v => decide (U.1 13 v = U.1 13 i) := by
          funext v
          unfold fsP
          rw [hpl, hpl]
        unfold fsV
        rw [this]
      have em : mt2 B (i + 1) S = if ¬ nxt (st2 B i S) B (nI i) = -1 ∧ nxt (st2 B i S) B (nI i) < nI i then mt2 B i S + 1 else mt2 B i S := rfl
      rw [em, cm2_s, c2M, ex, ey, ef, ih1, ih2]
      have x1 : xcnt (lqE (fun v w => decide (U.1 13 v = U.1 13 w)) N) (i + 1) = if lqE (fun v w => decide (U.1 13 v = U.1 13 w)) N i then xcnt (lqE (fun v w => decide (U.1 13 v = U.1 13 w)) N) i + 1 else xcnt (lqE (fun v w => decide (U.1 13 v = U.1 13 w)) N) i := rfl
      have x2 : xcnt (fqE (fun v w => decide (U.1 13 v = U.1 13 w)) N) (i + 1) = if fqE (fun v w => decide (U.1 13 v = U.1 13 w)) N i then xcnt (fqE (fun v w => decide (U.1 13 v = U.1 13 w)) N) i + 1 else xcnt (fqE (fun v w => decide (U.1 13 v = U.1 13 w)) N) i := rfl
      have y1 : lqE (fun v w => decide (U.1 13 v = U.1 13 w)) N i = decide (pnN (fun v w => decide (U.1 13 v = U.1 13 w)) N i < i) := rfl
      have y2 : fqE (fun v w => decide (U.1 13 v = U.1 13 w)) N i = (decide (pnN (fun v w => decide (U.1 13 v = U.1 13 w)) N i < N) && !(xany (fun v => decide (U.1 13 v = U.1 13 i)) i)) := rfl
      rw [x1, x2, y1, y2]
      generalize xcnt (lqE (fun v w => decide (U.1 13 v = U.1 13 w)) N) i = a at *
      generalize xcnt (fqE (fun v w => decide (U.1 13 v = U.1 13 w)) N) i = b at *
      generalize pnN (fun v w => decide (U.1 13 v = U.1 13 w)) N i = f at *
      generalize xany (fun v => decide (U.1 13 v = U.1 13 i)) i = y at *
      rcases hx with ⟨h1, h2⟩ | ⟨h1, h2⟩
      · rw [h1, h2, if_neg (fun q => q.1 rfl), if_pos rfl, decide_eq_false (show ¬ N < i by omega), decide_eq_false (Nat.lt_irrefl N), Bool.false_and]
        exact ⟨rfl, rfl⟩
      · have hne := nm1_nI (n := f) (by omega)
        rw [h1, if_neg hne, decide_eq_true h2, Bool.true_and]
        have hlt : nI f < nI i ↔ f < i := nI_ltI (by omega) (by omega)
        constructor
        · by_cases h3 : f < i
          · rw [if_pos ⟨hne, hlt.mpr h3⟩, decide_eq_true h3, if_pos rfl, nI_1]
          · rw [if_neg (fun q => h3 (hlt.mp q.2)), decide_eq_false h3, if_neg (by decide)]
        · cases y <;> simp [nI_1]
  obtain ⟨k1, k2⟩ := key N (Nat.le_refl _)
  rw [k1, k2, places_cnt _ hN6]
/-! many beats -/
theorem beats_ok {B G N : Nat} {σ τ : xS} (hT : TW B G N σ τ.1) (hW : WF G N τ.1) : ∀ i, (TW B G N (gbX B i σ) (gbM i τ).1 ∧ WF G N (gbM i τ).1) ∧ mbX B i σ = mbM i τ
  | 0 => ⟨⟨hT, hW⟩, rfl⟩
  | i + 1 => by
    obtain ⟨⟨iT, iW⟩, iM⟩ := beats_ok hT hW i
    have e1 : gbX B (i + 1) σ = beatX B (gbX B i σ) := rfl
    have e2 : mbX B (i + 1) σ = mbX B i σ + metX B (gbX B i σ) := rfl
    rw [e1, e2, gbM_s, mbM_s, iM, met_ok iT iW]
    exact ⟨beat_ok iT iW, rfl⟩
theorem WF_BOK {B G N : Nat} {σ τ : xS} (hT : TW B G N σ τ.1) (hW : WF G N τ.1) : BOK τ := fun i => WF_dy (beats_ok hT hW i).1.2
