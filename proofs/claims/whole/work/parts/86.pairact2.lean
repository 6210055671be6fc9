/-! the act itself -/
theorem RRn_ac {G N : Nat} {σ0 τ0 σ τ : xS} (h : RRn G N σ0 τ0) (A : ∃ m, m ≤ 100 ∧ σ.1 4 0 = nI m ∧ τ.1 0 48 = nI m ∧ ∀ i, i < 20 → i < m → σ.1 5 i = τ.1 47 i) (hx : ∀ c b, c ≠ 4 → c ≠ 5 → σ.1 c b = σ0.1 c b) (hx2 : σ.2 = σ0.2) (hm : ∀ c b, (c ≠ 0 ∨ b ≠ 48) → c ≠ 47 → τ.1 c b = τ0.1 c b) (hm2 : τ.2 = τ0.2) : RRn G N σ τ := by
  obtain ⟨h1, h2, h3, h4, -, h8, h9⟩ := h
  refine ⟨TA_v (fun c q => hm 0 c (by omega) (by omega)) (fun a c q1 q2 => hm a c (by omega) (by omega)) (fun a w q1 q2 q3 => hm a w (by omega) (by omega)) (TA_c (fun a b q1 q2 => hx a b (by omega) (by omega)) (by rw [hx2]) h1), fun s hs => ?_, fun j q1 q2 => ?_, ?_, ?_, IMr_f (hx _ _ (by omega) (by omega)) (fun a b q1 q2 => hx a b (by omega) (by omega)) (by rw [hx2]) (hm _ _ (by omega) (by omega)) (fun c => hm 39 c (by omega) (by omega)) h8, fun j hj => ?_⟩
  · have := h2 s hs
    have m23 : ∀ b, τ.1 23 b = τ0.1 23 b := fun b => hm 23 b (by omega) (by omega)
    have m24 : ∀ b, τ.1 24 b = τ0.1 24 b := fun b => hm 24 b (by omega) (by omega)
    have m25 : ∀ b, τ.1 25 b = τ0.1 25 b := fun b => hm 25 b (by omega) (by omega)
    have m26 : ∀ b, τ.1 26 b = τ0.1 26 b := fun b => hm 26 b (by omega) (by omega)
    have x0 : ∀ b, σ.1 (10 + s) b = σ0.1 (10 + s) b := fun b => hx (10 + s) b (by omega) (by omega)
    unfold SHr at *
    rw [m23, m24, m25, m26, x0, x0, hx2, hm2]
    exact this
  · rw [hx _ _ (by omega) (by omega), hm _ _ (by omega) (by omega)]; exact h3 j q1 q2
  · rw [hx _ _ (by omega) (by omega), hm _ _ (by omega) (by omega)]; exact h4
  · obtain ⟨m, a1, a2, a3, a4⟩ := A
    refine ⟨a2.trans a3.symm, ?_, fun i hi hl => a4 i hi ?_⟩
    · have := nI_toInt (n := m) (by omega)
      unfold rnP
      rw [a3, this]
      omega
    · rw [a3] at hl
      have e := t_lt.mp hl
      rw [nI_toInt (by omega), nI_toInt (by omega)] at e
      omega
  · rw [hm 29 j (by omega) (by omega)]; exact h9 j hj
theorem AR_RRn {G N n K : Nat} {x a : Int32} {σ0 τ0 σ τ : xS} (h : RRn G N σ0 τ0) (hn : n ≤ 100) (A : AR n K x a σ0 τ0 σ τ) : RRn G N σ τ := by
  obtain ⟨⟨m, a1, a2⟩, -, ⟨f1, f2⟩, ⟨g1, g2⟩, -⟩ := A
  exact RRn_ac h ⟨m, by omega, a2⟩ f1 f2 g1 g2
theorem rbX_e {S : xS} {fr ac x : Int32} : (rbX S fr ac x, rbS' S fr ac x) = rbF 21 S fr ac x := by
  unfold rbX rbS'
  generalize rbF 21 S fr ac x = F
  rfl
theorem OKp_i {G N : Nat} {F : Int32 × xS} {V : Int32} {T : xS} (h1 : F.1 = V) (h2 : RRn G N F.2 T) : OKp F (V, T) := ⟨h1, G, N, h2⟩
theorem AR_p {G N n K : Nat} {x a V : Int32} {F : Int32 × xS} {T σ τ : xS} (h : RRn G N σ τ) (hn : n ≤ 100) (b : F.1 = V ∧ AR n K x a σ τ F.2 T) : OKp F (V, T) := OKp_i b.1 (AR_RRn h hn b.2)
theorem sg_p {G N K k : Nat} {x a y : Int32} {σ τ S U : xS} (h : RRn G N σ τ) (hK : K < 7) (A : AR 0 K x a σ τ S U) : OKp (rbF (k + 2) S (nI K) 0 y) (sgV U x y, sgT U x) := AR_p h (Nat.le_of_ble_eq_true rfl) (sg_ok hK (Nat.le_of_ble_eq_true rfl) A)
theorem mg_p {G N K k : Nat} {x a y : Int32} {σ τ S U : xS} (h : RRn G N σ τ) (hK : K < 7) (A : AR 0 K x a σ τ S U) : OKp (rbF (k + 5) S (nI K) 1 y) (mgV U x y, mgT U x) := AR_p h (Nat.le_of_ble_eq_true rfl) (mg_ok hK (Nat.le_of_ble_eq_true rfl) A)
theorem tg_p {G N K k : Nat} {x a y : Int32} {σ τ S U : xS} (h : RRn G N σ τ) (hK : K < 7) (A : AR 0 K x a σ τ S U) : OKp (rbF (k + 7) S (nI K) 2 y) (tgV U x y, tgT U x) := AR_p h (Nat.le_of_ble_eq_true rfl) (tg_ok hK (Nat.le_of_ble_eq_true rfl) A)
theorem pf_ok {G N K f k : Nat} {x a y : Int32} {σ τ S U : xS} (hf : f = k + 7) (h : RRn G N σ τ) (hK : K < 7) (A : AR 0 K x a σ τ S U) (A' : Nat) (hA' : A' < 3) : OKp (rbF f S (nI K) (nI A') y) (if nI A' = 0 then (sgV U x y, sgT U x) else if nI A' = 1 then (mgV U x y, mgT U x) else (tgV U x y, tgT U x)) := by
  subst hf
  have : A' = 0 ∨ A' = 1 ∨ A' = 2 := by omega
  rcases this with rfl | rfl | rfl
  · rw [show nI 0 = 0 from rfl, if_pos rfl]
    exact sg_p (k := k + 5) h hK A
  · rw [show nI 1 = 1 from rfl, if_neg (show ¬ (1 : Int32) = 0 by decide), if_pos rfl]
    exact mg_p (k := k + 2) h hK A
  · rw [show nI 2 = 2 from rfl, if_neg (show ¬ (2 : Int32) = 0 by decide), if_neg (show ¬ (2 : Int32) = 1 by decide)]
    exact tg_p h hK A
theorem ok_act {G N : Nat} {σ τ : xS} (h : RRn G N σ τ) (x a y : Int32) : OKp (actX σ x a y) (actM τ x a y) := by
  obtain ⟨⟨hG, hN⟩, ⟨c1, c2⟩, ⟨c3, c4⟩⟩ := RRn_G h
  have u0 : (xI τ 0 48 0).1 0 48 = 0 := xI_s
  have u : ∀ c d, (c ≠ 0 ∨ d ≠ 48) → (xI τ 0 48 0).1 c d = τ.1 c d := fun c d q => xI_n (by omega)
  unfold actX actM
  rw [c3, c4]
  by_cases hx : 0 ≤ x ∧ x < nI N
  · by_cases ha : 0 ≤ a ∧ a ≤ 2
    · rw [if_neg (show ¬ (¬ (0 ≤ x ∧ x < nI N) ∨ ¬ (0 ≤ a ∧ a ≤ 2)) from fun q => q.elim (fun z => z hx) (fun z => z ha)), if_neg (show ¬ (¬ (0 ≤ x ∧ x < nI N) ∨ a < 0 ∨ 2 < a) from fun q => q.elim (fun z => z hx) (fun z => (nrg.mpr z) ha))]
      obtain ⟨w, hw, rfl⟩ := rgl (by omega) hx
      rw [whoK_n (by omega)]
      obtain ⟨k0, -, -, -, -, -, k6⟩ := h.1.1.1.2.2.1 w hw
      obtain ⟨K, p, d, g0, q, t, ⟨hK, -⟩, e1, -⟩ := h.1.1.2.2.2.1 w hw
      rw [k0, k6, e1]
      have w0 : (xI (xI (xI (xI σ 4 0 0) 4 1 (nI K)) 4 2 (nI w)) 4 3 (τ.1 12 w)).1 4 0 = 0 := by rw [xI_n (by omega), xI_n (by omega), xI_n (by omega), xI_s]
      have w1 : (xI (xI (xI (xI σ 4 0 0) 4 1 (nI K)) 4 2 (nI w)) 4 3 (τ.1 12 w)).1 4 1 = nI K := by rw [xI_n (by omega), xI_n (by omega), xI_s]
      have w2 : (xI (xI (xI (xI σ 4 0 0) 4 1 (nI K)) 4 2 (nI w)) 4 3 (τ.1 12 w)).1 4 2 = nI w := by rw [xI_n (by omega), xI_s]
      have w3 : (xI (xI (xI (xI σ 4 0 0) 4 1 (nI K)) 4 2 (nI w)) 4 3 (τ.1 12 w)).1 4 3 = τ.1 12 w := xI_s
      have ww : ∀ c b, c ≠ 4 → c ≠ 5 → (xI (xI (xI (xI σ 4 0 0) 4 1 (nI K)) 4 2 (nI w)) 4 3 (τ.1 12 w)).1 c b = σ.1 c b := fun c b q _ => by rw [xI_n (by omega), xI_n (by omega), xI_n (by omega), xI_n (by omega)]
      have w5 : (xI (xI (xI (xI σ 4 0 0) 4 1 (nI K)) 4 2 (nI w)) 4 3 (τ.1 12 w)).2 = σ.2 := rfl
      have u5 : (xI τ 0 48 0).2 = τ.2 := rfl
      generalize xI (xI (xI (xI σ 4 0 0) 4 1 (nI K)) 4 2 (nI w)) 4 3 (τ.1 12 w) = S at *
      generalize xI τ 0 48 0 = U at *
      have A : AR 0 K (nI w) (τ.1 12 w) σ τ S U := ⟨⟨0, Nat.le_refl _, w0, u0, fun i _ q => absurd q (by omega)⟩, ⟨w1, w2, w3⟩, ⟨ww, w5⟩, ⟨fun c b q _ => u c b q, u5⟩, ⟨by rw [tn_nI (by omega)]; exact e1, by rw [tn_nI (by omega)]⟩⟩
      obtain ⟨A', hA', rfl⟩ := rle (k := 2) (by omega) ha
      rw [rbX_e]
      exact pf_ok (f := 21) (k := 14) rfl h hK A A' (by omega)
    · rw [if_pos (Or.inr ha), if_pos (show ¬ (0 ≤ x ∧ x < nI N) ∨ a < 0 ∨ 2 < a from Or.inr (nrg.mp ha))]
      exact ⟨rfl, G, N, RRn_ac h ⟨0, by omega, xI_s, xI_s, fun i _ q => absurd q (by omega)⟩ (fun c b q _ => xI_n (by omega)) rfl (fun c b q _ => xI_n (by omega)) rfl⟩
  · rw [if_pos (Or.inl hx), if_pos (Or.inl hx)]
    exact ⟨rfl, G, N, RRn_ac h ⟨0, by omega, xI_s, xI_s, fun i _ q => absurd q (by omega)⟩ (fun c b q _ => xI_n (by omega)) rfl (fun c b q _ => xI_n (by omega)) rfl⟩
