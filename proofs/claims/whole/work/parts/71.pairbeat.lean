/-! A BEAT, side by side -/
theorem TW_upd {B G N i : Nat} {σ σ' : xS} {v v' : Nat → Nat → Int32} (h : TW B G N σ v) (hG : G ≤ 8) (hσ : ∀ a b, a ≠ B + 20 + i → σ'.1 a b = σ.1 a b) (h2 : σ'.2 B 0 = σ.2 B 0) (hv : ∀ a c, a ≤ 17 → ¬ (11 ≤ a ∧ c = i) → v' a c = v a c) (hk : TK σ' (B + 20 + i) v' i) : TW B G N σ' v' := by
  obtain ⟨⟨h1, h3⟩, hg, hw, hl⟩ := h
  refine ⟨⟨?_, ?_⟩, fun g hgG => ?_, fun w hwN => ?_, ?_⟩
  · rw [hσ _ _ (by omega)]; exact h1
  · rw [hσ _ _ (by omega)]; exact h3
  · obtain ⟨a1, a2, a3⟩ := hg g hgG
    refine ⟨?_, ?_, fun j hj => ?_⟩
    · rw [hσ _ _ (by omega), hv 8 g (by omega) (by omega)]; exact a1
    · rw [hσ _ _ (by omega), hv 9 g (by omega) (by omega)]; exact a2
    · rw [hv 8 g (by omega) (by omega)] at hj
      rw [hσ _ _ (by omega), hv 7 _ (by omega) (by omega)]
      exact a3 j hj
  · by_cases e : w = i
    · rw [e]; exact hk
    · obtain ⟨k0, k1, k2, k3, k4, k5, k6⟩ := hw w hwN
      refine ⟨?_, ?_, ?_, ?_, ?_, ?_, ?_⟩
      · rw [hσ _ _ (by omega), hv _ w (by omega) (by omega)]; exact k0
      · rw [hσ _ _ (by omega), hv _ w (by omega) (by omega)]; exact k1
      · rw [hσ _ _ (by omega), hv _ w (by omega) (by omega)]; exact k2
      · rw [hσ _ _ (by omega), hv _ w (by omega) (by omega)]; exact k3
      · rw [hσ _ _ (by omega), hv _ w (by omega) (by omega)]; exact k4
      · rw [hσ _ _ (by omega), hv _ w (by omega) (by omega)]; exact k5
      · rw [hσ _ _ (by omega), hv _ w (by omega) (by omega)]; exact k6
  · intro p hp
    rw [h2, hv 10 p (by omega) (by omega)]
    exact hl p hp
theorem wfW_v {v v' : Nat → Nat → Int32} {G w : Nat} (hv : ∀ a, 11 ≤ a → a ≤ 17 → v' a w = v a w) (h8 : ∀ g, v' 8 g = v 8 g) (h : wfW v G w) : wfW v' G w := by
  obtain ⟨k, p, d, g, q, t, ⟨b1, b2, b3, b4, b5, b6⟩, e1, e2, e3, e4, e5, e6⟩ := h
  exact ⟨k, p, d, g, q, t, ⟨b1, b2, b3, b4, by rw [h8]; exact b5, b6⟩, by rw [hv _ (by omega) (by omega)]; exact e1, by rw [hv _ (by omega) (by omega)]; exact e2, by rw [hv _ (by omega) (by omega)]; exact e3, by rw [hv _ (by omega) (by omega)]; exact e4, by rw [hv _ (by omega) (by omega)]; exact e5, by rw [hv _ (by omega) (by omega)]; exact e6⟩
theorem wfG_v {v v' : Nat → Nat → Int32} {g : Nat} (hv : ∀ a c, 7 ≤ a → a ≤ 9 → v' a c = v a c) (h : wfG v g) : wfG v' g := by
  obtain ⟨l, a, h1, h2, h3, h4⟩ := h
  exact ⟨l, a, h1, by rw [hv _ _ (by omega) (by omega)]; exact h2, by rw [hv _ _ (by omega) (by omega)]; exact h3, fun j hj => by rw [hv _ _ (by omega) (by omega)]; exact h4 j hj⟩
theorem WF_upd {G N i : Nat} {v v' : Nat → Nat → Int32} (h : WF G N v) (hv : ∀ a c, a ≤ 17 → ¬ (11 ≤ a ∧ c = i) → v' a c = v a c) (hw : wfW v' G i) : WF G N v' := by
  obtain ⟨⟨h1, h2, h3, h4⟩, hg, hww, hl⟩ := h
  refine ⟨⟨h1, h2, by rw [hv 0 0 (by omega) (by omega)]; exact h3, by rw [hv 0 1 (by omega) (by omega)]; exact h4⟩, fun g hgG => wfG_v (fun a c a1 a2 => hv a c (by omega) (by omega)) (hg g hgG), fun w hwN => ?_, fun p hp => by rw [hv 10 p (by omega) (by omega)]; exact hl p hp⟩
  by_cases e : w = i
  · rw [e]; exact hw
  · exact wfW_v (fun a a1 a2 => hv a w (by omega) (by omega)) (fun g => hv 8 g (by omega) (by omega)) (hww w hwN)
theorem remX_r {σ : xS} {K b : Nat} (h : b < 8) : (remX σ K).1 K b = σ.1 K b := by
  unfold remX
  rw [xI_n (by omega), xI_n (by omega), xI_n (by omega), xI_n (by omega)]
theorem remX_8 {σ : xS} {K : Nat} : (remX σ K).1 K 8 = σ.1 K 3 := by unfold remX; rw [xI_n (by omega), xI_n (by omega), xI_n (by omega), xI_s]
theorem remX_9 {σ : xS} {K : Nat} : (remX σ K).1 K 9 = σ.1 K 4 := by unfold remX; rw [xI_n (by omega), xI_n (by omega), xI_s]
theorem remX_10 {σ : xS} {K : Nat} : (remX σ K).1 K 10 = σ.1 K 2 := by unfold remX; rw [xI_n (by omega), xI_s]
theorem remX_11 {σ : xS} {K : Nat} : (remX σ K).1 K 11 = σ.1 K 5 := by unfold remX; rw [xI_s]
def RM (B : Nat) (σ : xS) (v : Nat → Nat → Int32) (w : Nat) : Prop := σ.1 (B + 20 + w) 8 = v 15 w ∧ σ.1 (B + 20 + w) 9 = v 16 w ∧ σ.1 (B + 20 + w) 10 = v 14 w ∧ σ.1 (B + 20 + w) 11 = v 17 w
theorem ph1 {B G N : Nat} {σ τ : xS} (hT : TW B G N σ τ.1) (hW : WF G N τ.1) : ∀ i, i ≤ N → TW B G N (st1 B i σ) (dm1 i τ).1 ∧ WF G N (dm1 i τ).1 ∧ (∀ w, w < i → RM B (st1 B i σ) (dm1 i τ).1 w)
  | 0, _ => ⟨hT, hW, fun w hw => absurd hw (by omega)⟩
  | i + 1, hi => by
    obtain ⟨iT, iW, iR⟩ := ph1 hT hW i (by omega)
    have es : st1 B (i + 1) σ = remX (stepX (st1 B i σ) B (B + 20 + i)) (B + 20 + i) := rfl
    have ed : dm1 (i + 1) τ = doM (dm1 i τ) i := rfl
    rw [es, ed]
    generalize st1 B i σ = S at *
    generalize dm1 i τ = U at *
    obtain ⟨⟨k0, k1, k2, k3, k4, k5, k6⟩, w2⟩ := step_ok iW iT (iT.2.2.1 i (by omega)) (iW.2.2.1 i (by omega))
    have hv : ∀ a c, a ≤ 17 → ¬ (11 ≤ a ∧ c = i) → (doM U i).1 a c = U.1 a c := fun a c h1 h2 => doM_o (by omega)
    have hσ : ∀ a b, a ≠ B + 20 + i → (remX (stepX S B (B + 20 + i)) (B + 20 + i)).1 a b = S.1 a b := fun a b h => by rw [remX_o h, stepX_o h]
    have tk : TK (remX (stepX S B (B + 20 + i)) (B + 20 + i)) (B + 20 + i) (doM U i).1 i := by
      refine ⟨?_, ?_, ?_, ?_, ?_, ?_, ?_⟩ <;> rw [remX_r (by omega)] <;> assumption
    refine ⟨TW_upd iT iW.1.1 hσ (by rw [remX_2, stepX_2]) hv tk, WF_upd iW hv w2, fun w hw => ?_⟩
    by_cases e : w = i
    · rw [e]
      exact ⟨by rw [remX_8, k3], by rw [remX_9, k4], by rw [remX_10, k2], by rw [remX_11, k5]⟩
    · obtain ⟨r1, r2, r3, r4⟩ := iR w (by omega)
      exact ⟨by rw [hσ _ _ (by omega), hv _ w (by omega) (by omega)]; exact r1, by rw [hσ _ _ (by omega), hv _ w (by omega) (by omega)]; exact r2, by rw [hσ _ _ (by omega), hv _ w (by omega) (by omega)]; exact r3, by rw [hσ _ _ (by omega), hv _ w (by omega) (by omega)]; exact r4⟩
/-- what was held still -/
def HD (B N : Nat) (σ : xS) (v : Nat → Nat → Int32) : Prop := ∀ w, w < N → σ.1 (B + 20 + w) 8 = v 41 w ∧ σ.1 (B + 20 + w) 9 = v 42 w ∧ σ.1 (B + 20 + w) 10 = v 40 w ∧ σ.1 (B + 20 + w) 11 = v 43 w
def WH (G N : Nat) (v : Nat → Nat → Int32) : Prop := ∀ w, w < N → ∃ g q d t : Nat, (g < G ∧ q < tn (v 8 g) ∧ d < 4 ∧ t < 2) ∧ v 41 w = nI g ∧ v 42 w = nI q ∧ v 40 w = nI d ∧ v 43 w = nI t
def LD (N : Nat) (v : Nat → Nat → Int32) : Prop := ∀ w, w < N → v 11 w = 5 → v 15 w = v 41 w ∧ v 16 w = v 42 w ∧ v 17 w = v 43 w
def MF (B n : Nat) (σ : xS) (v : Nat → Nat → Int32) : Prop := ∀ w, w < n → σ.1 (B + 20 + w) 7 = v 44 w ∧ (v 44 w = 0 ∨ v 44 w = 1)
def OW (N i : Nat) (v : Nat → Nat → Int32) : Prop := ∀ w, i ≤ w → w < N → v 15 w = v 41 w
theorem xfs_congr {P Q : Nat → Bool} : ∀ {n : Nat}, (∀ j, j < n → P j = Q j) → xfs P n = xfs Q n
  | 0, _ => rfl
  | n + 1, h => by
    have ih := xfs_congr (P := P) (Q := Q) (n := n) (fun j hj => h j (by omega))
    rw [xfs, xfs, ih, h n (by omega)]
theorem nx_eq {B G N i : Nat} {σ τ : xS} (hT : TW B G N σ τ.1) (hi : i < N) : nxtN σ B N i = nxN τ N i := by
  have h : xfs (nxtP σ B N i) (N - 1) = xfs (nxP τ N i) (N - 1) := xfs_congr (fun j hj => by
    have ho := oth_lt hi (show j + 1 < N by omega)
    unfold nxtP nxP
    rw [(hT.2.2.1 _ ho).2.1, (hT.2.2.1 _ hi).2.1])
  unfold nxtN nxN
  rw [h]
theorem nxN_c {N i : Nat} {τ : xS} (hi : i < N) : nxN τ N i = -1 ∨ ∃ j, j < N ∧ nxN τ N i = nI j := by
  unfold nxN
  split
  · rename_i h
    exact Or.inr ⟨_, oth_lt hi (by omega), rfl⟩
  · exact Or.inl rfl
theorem takeX_3 {τ : xS} {K J : Nat} : (takeX τ K J).1 K 3 = τ.1 J 8 := by unfold takeX; rw [xI_n (by omega), xI_n (by omega), xI_s]
theorem takeX_4 {τ : xS} {K J : Nat} : (takeX τ K J).1 K 4 = τ.1 J 9 := by unfold takeX; rw [xI_n (by omega), xI_s]
theorem takeX_5 {τ : xS} {K J : Nat} : (takeX τ K J).1 K 5 = if τ.1 K 0 = 4 then 1 - τ.1 J 11 else τ.1 J 11 := by unfold takeX; rw [xI_s]
theorem takeX_r {τ : xS} {K J b : Nat} (h : b ≠ 3 ∧ b ≠ 4 ∧ b ≠ 5) : (takeX τ K J).1 K b = τ.1 K b := by unfold takeX; rw [xI_n (by omega), xI_n (by omega), xI_n (by omega)]
theorem toM_15 {σ : xS} {w f : Nat} : (toM σ w f).1 15 w = σ.1 41 f := by unfold toM; rw [xI_n (by omega), xI_n (by omega), xI_s]
theorem toM_16 {σ : xS} {w f : Nat} : (toM σ w f).1 16 w = σ.1 42 f := by unfold toM; rw [xI_n (by omega), xI_s]
theorem toM_17 {σ : xS} {w f : Nat} : (toM σ w f).1 17 w = if σ.1 11 w = 4 then 1 - σ.1 43 f else σ.1 43 f := by unfold toM; rw [xI_s]
theorem toM_w {σ : xS} {w f a b : Nat} (h : b ≠ w) : (toM σ w f).1 a b = σ.1 a b := by unfold toM; rw [xI_n (by omega), xI_n (by omega), xI_n (by omega)]
theorem kd : ∀ k, k < 7 → ((¬ (nI k = 1 ∨ nI k = 2 ∨ nI k = 5)) ↔ (nI k = 6 ∨ (nI k = 0 ∨ nI k = 3 ∨ nI k = 4))) := by decide +kernel
theorem kd5 : ∀ k, k < 7 → nI k = 5 → ¬ (nI k = 6) ∧ ¬ (nI k = 0 ∨ nI k = 3 ∨ nI k = 4) := by decide +kernel
theorem tk_eq {k : Nat} (hk : k < 7) {x y : Int32} : (if nI k = 6 then x < y else nI k = 0 ∨ nI k = 3 ∨ nI k = 4) ↔ (¬ (nI k = 1 ∨ nI k = 2 ∨ nI k = 5) ∧ (¬ nI k = 6 ∨ x < y)) := by
  have h := kd k hk
  by_cases h6 : nI k = 6
  · rw [if_pos h6]
    exact ⟨fun q => ⟨h.mpr (Or.inl h6), Or.inr q⟩, fun q => q.2.resolve_left (fun z => z h6)⟩
  · rw [if_neg h6]
    exact ⟨fun q => ⟨h.mpr (Or.inr q), Or.inl h6⟩, fun q => (h.mp q.1).resolve_left h6⟩
theorem one_sub {t : Nat} (h : t < 2) : (1 : Int32) - nI t = nI (1 - t) := by rw [show (1 : Int32) = nI 1 from rfl, pk_sub (by omega)]
