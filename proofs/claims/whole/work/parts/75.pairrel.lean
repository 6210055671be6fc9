/-! THE PAIR: class and reference, all of it -/
def TC (B : Nat) (σ : xS) (v : Nat → Nat → Int32) : Prop := σ.1 B 3 = v 0 2 ∧ σ.1 B 4 = v 0 3 ∧ σ.1 B 5 = v 0 4
def HB (x : Int64) : Prop := ∀ p, 49 ≤ p → p < 64 → ¬ xlushr x (nI p) &&& 1 = 1
def SHr (N : Nat) (σ τ : xS) (s : Nat) : Prop := (0 ≤ τ.1 25 s ∧ τ.1 25 s ≤ 160) ∧ (0 ≤ σ.1 (10 + s) 1 ∧ (τ.1 23 s = 1 ∨ σ.1 (10 + s) 1 = 0)) ∧ ((τ.1 23 s = 0 ∧ σ.1 (10 + s) 0 = -1) ∨ (τ.1 23 s = 1 ∧ (∃ o, o < 4 ∧ τ.1 24 s = nI o ∧ σ.1 (10 + s) 0 = nI (100 + o)) ∧ σ.1 (10 + s) 1 = τ.1 25 s ∧ ∀ i, i < tn (τ.1 25 s) → σ.2 (20 + s) i = τ.2 27 (160 * s + i)) ∨ (τ.1 23 s = 2 ∧ ∃ w, w < N ∧ τ.1 26 s = nI w ∧ σ.1 (10 + s) 0 = nI w))
/-- the town that an array of the reference keeps -/
def vwM (A : Nat) (τ : xS) : Nat → Nat → Int32 := fun a c => match a with
  | 0 => τ.1 A (171 + c)
  | 7 => τ.1 A c
  | 8 => τ.1 A (64 + c)
  | 9 => τ.1 A (72 + c)
  | 10 => τ.1 A (80 + c)
  | 11 => τ.1 A (129 + c)
  | 12 => τ.1 A (135 + c)
  | 13 => τ.1 A (141 + c)
  | 14 => τ.1 A (147 + c)
  | 15 => τ.1 A (153 + c)
  | 16 => τ.1 A (159 + c)
  | 17 => τ.1 A (165 + c)
  | _ => 0
def TA (B G N : Nat) (σ : xS) (v : Nat → Nat → Int32) : Prop := (TW B G N σ v ∧ WF G N v) ∧ TC B σ v ∧ HB (σ.2 B 0)
def IMr (σ τ : xS) : Prop := (σ.1 0 9 = 0 ∧ τ.1 0 49 = 0) ∨ ((σ.1 0 9 = 1 ∧ τ.1 0 49 = 1) ∧ ∃ G N, TA 300 G N σ (vwM 39 τ))
def ACr (σ τ : xS) : Prop := σ.1 4 0 = τ.1 0 48 ∧ rnP 100 (τ.1 0 48) ∧ ∀ i, i < 20 → nI i < τ.1 0 48 → σ.1 5 i = τ.1 47 i
def RRn (G N : Nat) (σ τ : xS) : Prop := TA 100 G N σ τ.1 ∧ (∀ s, s < 8 → SHr N σ τ s) ∧ (∀ k, 1 ≤ k → k < 8 → σ.1 6 k = τ.1 6 k) ∧ σ.1 0 10 = τ.1 0 5 ∧ ACr σ τ ∧ IMr σ τ ∧ WD τ
def RR (σ τ : xS) : Prop := ∃ G N, RRn G N σ τ
def OKp (F F' : Int32 × xS) : Prop := F.1 = F'.1 ∧ RR F.2 F'.2
/-! frames -/
theorem TW_c {B G N : Nat} {σ σ' : xS} {v : Nat → Nat → Int32} (hG : G ≤ 8) (hN : N ≤ 6) (h1 : ∀ a b, B ≤ a → a < B + 30 → (a = B → b = 1 ∨ b = 2) → σ'.1 a b = σ.1 a b) (h2 : σ'.2 B 0 = σ.2 B 0) (h : TW B G N σ v) : TW B G N σ' v := by
  obtain ⟨⟨a1, a2⟩, hg, hw, hl⟩ := h
  refine ⟨⟨?_, ?_⟩, fun g hgG => ?_, fun w hwN => ?_, by rw [h2]; exact hl⟩
  · rw [h1 _ _ (by omega) (by omega) (by omega)]; exact a1
  · rw [h1 _ _ (by omega) (by omega) (by omega)]; exact a2
  · obtain ⟨b1, b2, b3⟩ := hg g hgG
    refine ⟨?_, ?_, fun j hj => ?_⟩
    · rw [h1 _ _ (by omega) (by omega) (by omega)]; exact b1
    · rw [h1 _ _ (by omega) (by omega) (by omega)]; exact b2
    · rw [h1 _ _ (by omega) (by omega) (by omega)]; exact b3 j hj
  · obtain ⟨k0, k1, k2, k3, k4, k5, k6⟩ := hw w hwN
    refine ⟨?_, ?_, ?_, ?_, ?_, ?_, ?_⟩ <;> rw [h1 _ _ (by omega) (by omega) (by omega)] <;> assumption
theorem TA_c {B G N : Nat} {σ σ' : xS} {v : Nat → Nat → Int32} (h1 : ∀ a b, B ≤ a → a < B + 30 → σ'.1 a b = σ.1 a b) (h2 : σ'.2 B 0 = σ.2 B 0) (h : TA B G N σ v) : TA B G N σ' v := by
  obtain ⟨⟨a1, a2⟩, ⟨a3, a4, a5⟩, a6⟩ := h
  refine ⟨⟨TW_c a2.1.1 a2.1.2.1 (fun a b q1 q2 _ => h1 a b q1 q2) h2 a1, a2⟩, ⟨?_, ?_, ?_⟩, by rw [h2]; exact a6⟩
  · rw [h1 _ _ (by omega) (by omega)]; exact a3
  · rw [h1 _ _ (by omega) (by omega)]; exact a4
  · rw [h1 _ _ (by omega) (by omega)]; exact a5
theorem TA_v {B G N : Nat} {σ : xS} {v v' : Nat → Nat → Int32} (h0 : ∀ c, c < 5 → v' 0 c = v 0 c) (h7 : ∀ a c, 7 ≤ a → a ≤ 10 → v' a c = v a c) (hv : ∀ a w, 11 ≤ a → a ≤ 17 → w < N → v' a w = v a w) (h : TA B G N σ v) : TA B G N σ v' := by
  obtain ⟨⟨a1, a2⟩, ⟨a3, a4, a5⟩, a6⟩ := h
  exact ⟨⟨TW_v h7 hv a1, WF_v ⟨h0 0 (by omega), h0 1 (by omega)⟩ h7 hv a2⟩, ⟨by rw [h0 2 (by omega)]; exact a3, by rw [h0 3 (by omega)]; exact a4, by rw [h0 4 (by omega)]; exact a5⟩, a6⟩
/-- what a call in thought leaves of the class -/
def XF (σ σ' : xS) : Prop := (∀ a b, a < 200 ∨ (300 ≤ a ∧ a < 400) → a ≠ 2 → a ≠ 3 → σ'.1 a b = σ.1 a b) ∧ (∀ a b, a ≠ 200 → a ≠ 7 → a ≠ 8 → a < 400 → σ'.2 a b = σ.2 a b)
theorem XF_FR {σ σ' : xS} (h : FR σ σ') : XF σ σ' := ⟨fun a b q _ _ => h.1 a b (by omega), fun a b q1 q2 q3 _ => h.2 a b q1 q2 q3⟩
theorem XF_r {σ : xS} : XF σ σ := ⟨fun _ _ _ _ _ => rfl, fun _ _ _ _ _ _ => rfl⟩
theorem XF_t {σ τ υ : xS} (h : XF σ τ) (h' : XF τ υ) : XF σ υ := ⟨fun a b q q2 q3 => (h'.1 a b q q2 q3).trans (h.1 a b q q2 q3), fun a b q1 q2 q3 q4 => (h'.2 a b q1 q2 q3 q4).trans (h.2 a b q1 q2 q3 q4)⟩
def MFr (N : Nat) (τ τ' : xS) : Prop := (∀ c, c < 6 ∨ c = 48 ∨ c = 49 → τ'.1 0 c = τ.1 0 c) ∧ (∀ a c, (6 ≤ a ∧ a ≤ 10) ∨ (23 ≤ a ∧ a ≤ 26) ∨ a = 29 ∨ a = 39 ∨ a = 47 → τ'.1 a c = τ.1 a c) ∧ (∀ a w, 11 ≤ a → a ≤ 17 → w < N → τ'.1 a w = τ.1 a w) ∧ (∀ c, τ'.2 27 c = τ.2 27 c)
theorem MFr_r {N : Nat} {τ : xS} : MFr N τ τ := ⟨fun _ _ => rfl, fun _ _ _ => rfl, fun _ _ _ _ _ => rfl, fun _ => rfl⟩
theorem MFr_t {N : Nat} {τ υ ω : xS} (h : MFr N τ υ) (h' : MFr N υ ω) : MFr N τ ω := ⟨fun c q => (h'.1 c q).trans (h.1 c q), fun a c q => (h'.2.1 a c q).trans (h.2.1 a c q), fun a w q1 q2 q3 => (h'.2.2.1 a w q1 q2 q3).trans (h.2.2.1 a w q1 q2 q3), fun c => (h'.2.2.2 c).trans (h.2.2.2 c)⟩
theorem vwM_e {A a c : Nat} {τ τ' : xS} (h : ∀ b, τ'.1 A b = τ.1 A b) : vwM A τ' a c = vwM A τ a c := by
  unfold vwM
  split <;> first | exact h _ | rfl
theorem SHr_f {N s : Nat} {σ σ' τ τ' : xS} (hs : s < 8) (hX : XF σ σ') (hM : MFr N τ τ') (h : SHr N σ τ s) : SHr N σ' τ' s := by
  obtain ⟨⟨a1, a2⟩, a3, h⟩ := h
  have x0 : ∀ b, σ'.1 (10 + s) b = σ.1 (10 + s) b := fun b => hX.1 _ _ (by omega) (by omega) (by omega)
  have m : ∀ a, 23 ≤ a → a ≤ 26 → τ'.1 a s = τ.1 a s := fun a q1 q2 => hM.2.1 a s (by omega)
  refine ⟨⟨by rw [m 25 (by omega) (by omega)]; exact a1, by rw [m 25 (by omega) (by omega)]; exact a2⟩, by rw [x0, m 23 (by omega) (by omega)]; exact a3, ?_⟩
  rcases h with ⟨b1, b2⟩ | ⟨b1, ⟨o, o4, b2, b3⟩, b4, b5⟩ | ⟨b1, w, hw, b2, b3⟩
  · exact Or.inl ⟨by rw [m 23 (by omega) (by omega)]; exact b1, by rw [x0]; exact b2⟩
  · refine Or.inr (Or.inl ⟨by rw [m 23 (by omega) (by omega)]; exact b1, ⟨o, o4, by rw [m 24 (by omega) (by omega)]; exact b2, by rw [x0]; exact b3⟩, by rw [x0, m 25 (by omega) (by omega)]; exact b4, fun i hi => ?_⟩)
    rw [m 25 (by omega) (by omega)] at hi
    rw [hX.2 _ _ (by omega) (by omega) (by omega) (by omega), hM.2.2.2]
    exact b5 i hi
  · exact Or.inr (Or.inr ⟨by rw [m 23 (by omega) (by omega)]; exact b1, w, hw, by rw [m 26 (by omega) (by omega)]; exact b2, by rw [x0]; exact b3⟩)
theorem IMr_f {σ σ' τ τ' : xS} (h0 : σ'.1 0 9 = σ.1 0 9) (h1 : ∀ a b, 300 ≤ a → a < 330 → σ'.1 a b = σ.1 a b) (h2 : σ'.2 300 0 = σ.2 300 0) (m0 : τ'.1 0 49 = τ.1 0 49) (m1 : ∀ c, τ'.1 39 c = τ.1 39 c) (h : IMr σ τ) : IMr σ' τ' := by
  rcases h with ⟨a1, a2⟩ | ⟨⟨a1, a2⟩, G, N, a3⟩
  · exact Or.inl ⟨h0.trans a1, m0.trans a2⟩
  · exact Or.inr ⟨⟨h0.trans a1, m0.trans a2⟩, G, N, TA_v (fun c _ => vwM_e m1) (fun a c _ _ => vwM_e m1) (fun a w _ _ _ => vwM_e m1) (TA_c (fun a b q1 q2 => h1 a b q1 q2) h2 a3)⟩
theorem RRn_f {G N : Nat} {σ σ' τ τ' : xS} (hX : XF σ σ') (hM : MFr N τ τ') (h : RRn G N σ τ) : RRn G N σ' τ' := by
  obtain ⟨h1, h2, h3, h4, ⟨h5, h6, h7⟩, h8, h9⟩ := h
  refine ⟨TA_v (fun c q => hM.1 c (by omega)) (fun a c q1 q2 => hM.2.1 a c (by omega)) (fun a w q1 q2 q3 => hM.2.2.1 a w q1 q2 q3) (TA_c (fun a b q1 q2 => hX.1 a b (by omega) (by omega) (by omega)) (hX.2 _ _ (by omega) (by omega) (by omega) (by omega)) h1), fun s hs => SHr_f hs hX hM (h2 s hs), fun k q1 q2 => ?_, ?_, ⟨?_, ?_, fun i hi hl => ?_⟩, IMr_f (hX.1 _ _ (by omega) (by omega) (by omega)) (fun a b q1 q2 => hX.1 a b (by omega) (by omega) (by omega)) (hX.2 _ _ (by omega) (by omega) (by omega) (by omega)) (hM.1 49 (by omega)) (fun c => hM.2.1 39 c (by omega)) h8, fun j hj => ?_⟩
  · rw [hX.1 _ _ (by omega) (by omega) (by omega), hM.2.1 6 k (by omega)]; exact h3 k q1 q2
  · rw [hX.1 _ _ (by omega) (by omega) (by omega), hM.1 5 (by omega)]; exact h4
  · rw [hX.1 _ _ (by omega) (by omega) (by omega), hM.1 48 (by omega)]; exact h5
  · rw [hM.1 48 (by omega)]; exact h6
  · rw [hM.1 48 (by omega)] at hl
    rw [hX.1 _ _ (by omega) (by omega) (by omega), hM.2.1 47 i (by omega)]; exact h7 i hi hl
  · rw [hM.2.1 29 j (by omega)]; exact h9 j hj
/-! refusals -/
theorem RRn_6 {G N k : Nat} {σ τ : xS} (hk : 1 ≤ k) (hk8 : k < 8) (h : RRn G N σ τ) : RRn G N (xI σ 6 k (σ.1 6 k + 1)) (xI τ 6 k (τ.1 6 k + 1)) := by
  have e := h.2.2.1 k hk hk8
  have hx : ∀ a b, a ≠ 6 → (xI σ 6 k (σ.1 6 k + 1)).1 a b = σ.1 a b := fun a b q => xI_n (by omega)
  have hm : ∀ a b, a ≠ 6 → (xI τ 6 k (τ.1 6 k + 1)).1 a b = τ.1 a b := fun a b q => xI_n (by omega)
  obtain ⟨h1, h2, h3, h4, ⟨h5, h6, h7⟩, h8, h9⟩ := h
  refine ⟨TA_v (fun c q => hm 0 c (by omega)) (fun a c q1 q2 => hm a c (by omega)) (fun a w q1 q2 q3 => hm a w (by omega)) (TA_c (fun a b q1 q2 => hx a b (by omega)) rfl h1), fun s hs => ?_, fun j q1 q2 => ?_, ?_, ⟨?_, ?_, fun i hi hl => ?_⟩, IMr_f (hx _ _ (by omega)) (fun a b q1 q2 => hx a b (by omega)) rfl (hm _ _ (by omega)) (fun c => hm 39 c (by omega)) h8, fun j hj => ?_⟩
  · obtain ⟨⟨a1, a2⟩, a3, h⟩ := h2 s hs
    unfold SHr
    simp only [hx (10 + s) _ (by omega), hm 23 _ (by omega), hm 24 _ (by omega), hm 25 _ (by omega), hm 26 _ (by omega)]
    exact ⟨⟨a1, a2⟩, a3, h⟩
  · by_cases ej : j = k
    · rw [ej, xI_s, xI_s, e]
    · rw [xI_n (by omega), xI_n (by omega)]; exact h3 j q1 q2
  · rw [hx _ _ (by omega), hm _ _ (by omega)]; exact h4
  · rw [hx _ _ (by omega), hm _ _ (by omega)]; exact h5
  · rw [hm _ _ (by omega)]; exact h6
  · rw [hm _ _ (by omega)] at hl
    rw [hx _ _ (by omega), hm _ _ (by omega)]; exact h7 i hi hl
  · rw [hm _ _ (by omega)]; exact h9 j hj
theorem rfX_e {σ : xS} {a : Int32} {k : Nat} (h1 : 0 ≤ rfJ a ∧ rfJ a < 8) (h2 : tn (rfJ a) = k) : rfX σ a = xI σ 6 k (σ.1 6 k + 1) := by
  unfold rfX
  rw [if_pos h1, h2]
theorem rfM_e {τ : xS} {b : Int32} {k : Nat} (h : tn (-b) = k) : rfM τ b = xI τ 6 k (τ.1 6 k + 1) := by
  unfold rfM
  rw [h]
def rfK (a b : Int32) (k : Nat) : Prop := (1 ≤ k ∧ k < 8) ∧ (0 ≤ rfJ a ∧ rfJ a < 8) ∧ tn (rfJ a) = k ∧ tn (-b) = k
theorem no_ok {G N k : Nat} {σ τ : xS} {a b : Int32} (hk : rfK a b k) (h : RRn G N σ τ) : RRn G N (rfX σ a) (rfM τ b) := by
  rw [rfX_e hk.2.1 hk.2.2.1, rfM_e hk.2.2.2]
  exact RRn_6 hk.1.1 hk.1.2 h
theorem rk1 : rfK (-1) (-1) 1 := ⟨by decide, by decide, by decide, by decide⟩
theorem rk2 : rfK (-2) (-2) 2 := ⟨by decide, by decide, by decide, by decide⟩
theorem rk3 : rfK (-3) (-3) 3 := ⟨by decide, by decide, by decide, by decide⟩
theorem rk4 : rfK (-4) (-4) 4 := ⟨by decide, by decide, by decide, by decide⟩
theorem rk5 : rfK (-5) (-5) 5 := ⟨by decide, by decide, by decide, by decide⟩
theorem rk6 : rfK (-6) (-6) 6 := ⟨by decide, by decide, by decide, by decide⟩
theorem rk7 : rfK (-7) (-7) 7 := ⟨by decide, by decide, by decide, by decide⟩
theorem rk11 : rfK (-11) (-1) 1 := ⟨by decide, by decide, by decide, by decide⟩
theorem rk15 : rfK (-15) (-5) 5 := ⟨by decide, by decide, by decide, by decide⟩
theorem rk16 : rfK (-16) (-6) 6 := ⟨by decide, by decide, by decide, by decide⟩
theorem rk17 : rfK (-17) (-7) 7 := ⟨by decide, by decide, by decide, by decide⟩
theorem no_p {G N k : Nat} {σ τ : xS} {a : Int32} (hk : rfK a a k) (h : RRn G N σ τ) : OKp (noX σ a) (noM τ a) := ⟨rfl, G, N, no_ok hk h⟩
theorem nt_p {G N k : Nat} {σ τ : xS} {a b : Int32} (hk : rfK a b k) (e : a = b - 10) (h : RRn G N σ τ) : OKp (noX σ a) (ntM τ b) := ⟨e, G, N, no_ok hk h⟩
/-! thought -/
theorem TW_th {G N : Nat} {σ τ : xS} (h : RRn G N σ τ) : TW 200 G N (cpT 200 100 σ) (bgM τ).1 ∧ WF G N (bgM τ).1 := by
  obtain ⟨⟨⟨hT, hW⟩, -⟩, -⟩ := h
  have e1 : tn (σ.1 100 1) = G := by rw [hT.1.1, tn_nI (by have := hW.1.1; omega)]
  have e2 : tn (σ.1 100 2) = N := by rw [hT.1.2, tn_nI (by have := hW.1.2.1; omega)]
  have hG := hW.1.1
  have hN := hW.1.2.1
  have hv : ∀ a c, a ≤ 17 → (bgM τ).1 a c = τ.1 a c := fun a c q => bgM_o (by omega)
  refine ⟨TW_v (v := τ.1) (fun a c _ q => hv a c (by omega)) (fun a w _ q _ => hv a w q) ?_, WF_v ⟨hv _ _ (by omega), hv _ _ (by omega)⟩ (fun a c _ q => hv a c (by omega)) (fun a w _ q _ => hv a w q) hW⟩
  obtain ⟨⟨a1, a2⟩, hg, hw, hl⟩ := hT
  refine ⟨⟨by rw [cpT_c (by omega)]; exact a1, by rw [cpT_c (by omega)]; exact a2⟩, fun g hgG => ?_, fun w hwN => ?_, ?_⟩
  · obtain ⟨b1, b2, b3⟩ := hg g hgG
    refine ⟨?_, ?_, fun j hj => ?_⟩
    · rw [cpT_g (by omega) (by omega) (by omega) (by omega)]; exact b1
    · rw [cpT_g (by omega) (by omega) (by omega) (by omega)]; exact b2
    · rw [cpT_g (by omega) (by omega) (by omega) (by omega)]; exact b3 j hj
  · obtain ⟨k0, k1, k2, k3, k4, k5, k6⟩ := hw w hwN
    refine ⟨?_, ?_, ?_, ?_, ?_, ?_, ?_⟩ <;> rw [cpT_w (by omega) (by omega) (by omega) (by omega) (by omega)] <;> assumption
  · rw [cpT_2]
    have : (xJ σ 200 0 (σ.2 100 0)).2 200 0 = σ.2 100 0 := by simp [xJ]
    rw [this]
    exact hl
theorem gbs_TW {B G N : Nat} {σ : xS} {v : Nat → Nat → Int32} {n : Int32} (hG : G ≤ 8) (hN : N ≤ 6) (h : TW B G N (gbX B (tn n) σ) v) : TW B G N (gbsX B n σ) v := by
  refine TW_c (σ := gbX B (tn n) σ) hG hN (fun a b q1 q2 q3 => ?_) rfl h
  unfold gbsX
  rw [xI_n (by omega), xI_n (by omega)]
theorem th_ok {G N : Nat} {σ τ : xS} (h : RRn G N σ τ) (n : Int32) : (TW 200 G N (thX σ n) (thM τ n).1 ∧ WF G N (thM τ n).1) ∧ thV σ n = mbM (tn n) (bgM τ) := by
  obtain ⟨a1, a2⟩ := TW_th h
  obtain ⟨⟨b1, b2⟩, b3⟩ := beats_ok a1 a2 (tn n)
  exact ⟨⟨gbs_TW b2.1.1 b2.1.2.1 b1, b2⟩, b3⟩
theorem baM_c {X : xS} {w : Nat} (hw : w < 6) : (baM X).1 13 w = X.1 18 w ∧ (baM X).1 14 w = X.1 19 w ∧ (baM X).1 15 w = X.1 20 w ∧ (baM X).1 16 w = X.1 21 w ∧ (baM X).1 17 w = X.1 22 w := ⟨if_pos hw, if_pos hw, if_pos hw, if_pos hw, if_pos hw⟩
theorem bgM_c {X : xS} {w : Nat} (hw : w < 6) : (bgM X).1 18 w = X.1 13 w ∧ (bgM X).1 19 w = X.1 14 w ∧ (bgM X).1 20 w = X.1 15 w ∧ (bgM X).1 21 w = X.1 16 w ∧ (bgM X).1 22 w = X.1 17 w := ⟨if_pos hw, if_pos hw, if_pos hw, if_pos hw, if_pos hw⟩
/-- a state that kept what was saved, brought back -/
theorem back_ok {N : Nat} {τ X : xS} (hN : N ≤ 6) (h0 : ∀ a c, (a < 13 ∨ 17 < a) → a < 40 ∨ 44 < a → X.1 a c = (bgM τ).1 a c) (h2 : ∀ c, X.2 27 c = τ.2 27 c) : MFr N τ (baM X) := by
  have ho : ∀ a c, (a < 13 ∨ 22 < a) → a < 40 ∨ 44 < a → (baM X).1 a c = τ.1 a c := fun a c q q2 => by rw [baM_o (by omega), h0 a c (by omega) q2, bgM_o (by omega)]
  refine ⟨fun c q => ho 0 c (by omega) (by omega), fun a c q => ho a c (by omega) (by omega), fun a w q1 q2 q3 => ?_, h2⟩
  by_cases h13 : a < 13
  · exact ho a w (by omega) (by omega)
  · have hw : w < 6 := by omega
    obtain ⟨b1, b2, b3, b4, b5⟩ := baM_c (X := X) hw
    obtain ⟨c1, c2, c3, c4, c5⟩ := bgM_c (X := τ) hw
    have ha : a = 13 ∨ a = 14 ∨ a = 15 ∨ a = 16 ∨ a = 17 := by omega
    rcases ha with rfl | rfl | rfl | rfl | rfl
    · rw [b1, h0 _ _ (by omega) (by omega), c1]
    · rw [b2, h0 _ _ (by omega) (by omega), c2]
    · rw [b3, h0 _ _ (by omega) (by omega), c3]
    · rw [b4, h0 _ _ (by omega) (by omega), c4]
    · rw [b5, h0 _ _ (by omega) (by omega), c5]
theorem gb_back {N : Nat} {τ : xS} (hN : N ≤ 6) (k : Nat) : MFr N τ (baM (gbM k (bgM τ))) := back_ok hN (fun a c q q2 => gbM_o (by omega)) (fun c => by rw [gbM_2]; rfl)
theorem gb_fr {G N : Nat} {σ τ : xS} (h : RRn G N σ τ) (n : Int32) (k : Nat) : XF σ (gbX 200 k (thX σ n)) := by
  have hT := h.1.1.1
  have hG := h.1.1.2.1.1
  have hN := h.1.1.2.1.2.1
  have e1 : tn (σ.1 100 1) ≤ 8 := by rw [hT.1.1, tn_nI (by omega)]; exact hG
  have e2 : tn (σ.1 100 2) ≤ 6 := by rw [hT.1.2, tn_nI (by omega)]; exact hN
  exact XF_FR (FR_t (FR_th e2 e1 n) (FR_gb (by rw [thX_k]; exact e2) k))
