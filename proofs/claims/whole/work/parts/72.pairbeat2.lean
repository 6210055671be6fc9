/-! a beat, side by side: the meetings -/
def I2 (B G N i : Nat) (σ τ : xS) : Prop := (TW B G N σ τ.1 ∧ WF G N τ.1) ∧ (HD B N σ τ.1 ∧ WH G N τ.1) ∧ (OW N i τ.1 ∧ LD N τ.1) ∧ MF B i σ τ.1
theorem p2_eqv {B G N i j : Nat} {σ τ : xS} (h : I2 B G N i σ τ) (hi : i < N) (hj : j < N) : (takB σ (B + 20 + i) (B + 20 + j) (σ.1 (B + 20 + j) 8) = true) ↔ (tkMb (xI τ 44 i 1) i j = true ∧ gvMb (xI τ 44 i 1) j = true) := by
  obtain ⟨⟨hT, hW⟩, ⟨hH, hWH⟩, ⟨hO, hL⟩, hM⟩ := h
  obtain ⟨k, p, d, g, q, t, ⟨b1, b2, b3, b4, b5, b6⟩, e1, e2, e3, e4, e5, e6⟩ := hW.2.2.1 i hi
  have tk := tk_eq b1 (x := τ.1 41 i) (y := τ.1 41 j)
  have hki := (hT.2.2.1 i hi).1
  have hgi := (hT.2.2.1 i hi).2.2.2.1
  have hkj := (hT.2.2.1 j hj).1
  have h8j := (hH j hj).1
  have hoi := hO i (Nat.le_refl _) hi
  unfold takB tkMb gvMb
  rw [decide_eq_true_iff, decide_eq_true_iff, decide_eq_true_iff, hki, hgi, hkj, h8j, hoi, xI_n (by omega), xI_n (by omega), xI_n (by omega), xI_n (by omega), e1, tk]
  exact ⟨fun q => ⟨q.2, q.1⟩, fun q => ⟨q.2, q.1⟩⟩
theorem meetX_no {σ : xS} {B K : Nat} : meetX σ B K (-1) = xI σ K 7 0 := by
  unfold meetX
  rw [if_neg (fun q => q.1 rfl), if_pos rfl]
theorem meetX_at {σ : xS} {B K j : Nat} (hj : j < 6) : meetX σ B K (nI j) = if takB σ K (B + 20 + j) (σ.1 (B + 20 + j) 8) = true then xI (takeX (xI σ K 7 1) K (B + 20 + j)) K 2 (σ.1 (B + 20 + j) 10) else xI σ K 7 1 := by
  have h1 := nm1_nI (n := j) (by omega)
  unfold meetX
  rw [whoK_n hj, if_neg h1]
  by_cases h : takB σ K (B + 20 + j) (σ.1 (B + 20 + j) 8) = true
  · rw [if_pos ⟨h1, h⟩, if_pos h]
  · rw [if_neg (fun q => h q.2), if_neg h]
theorem ph2s {B G N i : Nat} {σ τ : xS} (h : I2 B G N i σ τ) (hi : i < N) : I2 B G N (i + 1) (meetX σ B (B + 20 + i) (nxtN σ B N i)) (p2M τ i) := by
  have hn := nx_eq h.1.1 hi
  have hv1 := h.1.2.1.2.2.2
  have hG8 := h.1.2.1.1
  have hN6 := h.1.2.1.2.1
  have hx : nxM τ (nI i) = nxN τ N i := by unfold nxM; rw [hv1, tn_nI (by omega), tn_nI (by omega)]
  rw [hn]
  unfold p2M
  rw [hx]
  rcases nxN_c (τ := τ) hi with hc | ⟨j, hj, hc⟩
  · rw [hc, if_pos rfl, meetX_no]
    obtain ⟨⟨hT, hW⟩, ⟨hH, hWH⟩, ⟨hO, hL⟩, hM⟩ := h
    have hσ : ∀ a b, a ≠ B + 20 + i → (xI σ (B + 20 + i) 7 0).1 a b = σ.1 a b := fun a b q => xI_n (by omega)
    have hσ7 : ∀ a b, b ≠ 7 → (xI σ (B + 20 + i) 7 0).1 a b = σ.1 a b := fun a b q => xI_n (by omega)
    have hv : ∀ a c, a ≠ 44 → (xI τ 44 i 0).1 a c = τ.1 a c := fun a c q => xI_n (by omega)
    have hv17 : ∀ a c, a ≤ 17 → ¬ (11 ≤ a ∧ c = i) → (xI τ 44 i 0).1 a c = τ.1 a c := fun a c q _ => hv a c (by omega)
    obtain ⟨k0, k1, k2, k3, k4, k5, k6⟩ := hT.2.2.1 i hi
    refine ⟨⟨TW_upd hT hG8 hσ rfl hv17 ⟨?_, ?_, ?_, ?_, ?_, ?_, ?_⟩, WF_upd hW hv17 (wfW_v (fun a _ _ => hv a i (by omega)) (fun g => hv 8 g (by omega)) (hW.2.2.1 i hi))⟩, ⟨fun w hw => ?_, fun w hw => ?_⟩, ⟨fun w h1 h2 => ?_, fun w hw h5 => ?_⟩, fun w hw => ?_⟩
    · rw [hσ7 _ _ (by omega), hv _ _ (by omega)]; exact k0
    · rw [hσ7 _ _ (by omega), hv _ _ (by omega)]; exact k1
    · rw [hσ7 _ _ (by omega), hv _ _ (by omega)]; exact k2
    · rw [hσ7 _ _ (by omega), hv _ _ (by omega)]; exact k3
    · rw [hσ7 _ _ (by omega), hv _ _ (by omega)]; exact k4
    · rw [hσ7 _ _ (by omega), hv _ _ (by omega)]; exact k5
    · rw [hσ7 _ _ (by omega), hv _ _ (by omega)]; exact k6
    · rw [hσ7 _ _ (by omega), hσ7 _ _ (by omega), hσ7 _ _ (by omega), hσ7 _ _ (by omega), hv _ _ (by omega), hv _ _ (by omega), hv _ _ (by omega), hv _ _ (by omega)]
      exact hH w hw
    · simp only [hv 8 _ (by omega), hv 40 _ (by omega), hv 41 _ (by omega), hv 42 _ (by omega), hv 43 _ (by omega)]
      exact hWH w hw
    · rw [hv _ _ (by omega), hv _ _ (by omega)]
      exact hO w (by omega) h2
    · rw [hv _ _ (by omega)] at h5
      rw [hv _ _ (by omega), hv _ _ (by omega), hv _ _ (by omega), hv _ _ (by omega), hv _ _ (by omega), hv _ _ (by omega)]
      exact hL w hw h5
    · by_cases e : w = i
      · rw [e, xI_s, xI_s]
        exact ⟨rfl, Or.inl rfl⟩
      · rw [hσ _ _ (by omega), xI_n (by omega)]
        exact hM w (by omega)
  · have he := p2_eqv h hi hj
    rw [hc, if_neg (nm1_nI (by omega)), tn_nI (by omega), meetX_at (by omega)]
    unfold p2B
    obtain ⟨⟨hT, hW⟩, ⟨hH, hWH⟩, ⟨hO, hL⟩, hM⟩ := h
    obtain ⟨k0, k1, k2, k3, k4, k5, k6⟩ := hT.2.2.1 i hi
    by_cases ht : tkMb (xI τ 44 i 1) i j = true ∧ gvMb (xI τ 44 i 1) j = true
    · rw [if_pos ht, if_pos (he.mpr ht)]
      obtain ⟨k, p, d, g, q, t, ⟨b1, b2, b3, b4, b5, b6⟩, e1, e2, e3, e4, e5, e6⟩ := hW.2.2.1 i hi
      obtain ⟨g', q', d', t', ⟨c1, c2, c3, c4⟩, f1, f2, f3, f4⟩ := hWH j hj
      obtain ⟨h8, h9, h10, h11⟩ := hH j hj
      have hk5 : ¬ nI k = 5 := fun q5 => by
        have h1 := of_decide_eq_true ht.1
        rw [xI_n (by omega), e1] at h1
        exact h1.1 (Or.inr (Or.inr q5))
      have hk4 : (xI τ 44 i 1).1 11 i = τ.1 11 i := xI_n (by omega)
      have t11 : (xI σ (B + 20 + i) 7 1).1 (B + 20 + i) 0 = σ.1 (B + 20 + i) 0 := xI_n (by omega)
      have r8 : ∀ b, b ≠ 7 → (xI σ (B + 20 + i) 7 1).1 (B + 20 + j) b = σ.1 (B + 20 + j) b := fun b q => xI_n (by omega)
      have m41 : ∀ a, a ≠ 44 → ∀ c, (xI τ 44 i 1).1 a c = τ.1 a c := fun a q c => xI_n (by omega)
      have hσ : ∀ a b, a ≠ B + 20 + i → (xI (takeX (xI σ (B + 20 + i) 7 1) (B + 20 + i) (B + 20 + j)) (B + 20 + i) 2 (σ.1 (B + 20 + j) 10)).1 a b = σ.1 a b := fun a b q => by rw [xI_n (by omega), takeX_o q, xI_n (by omega)]
      have s0 : ∀ b, b ≠ 2 → b ≠ 3 → b ≠ 4 → b ≠ 5 → b ≠ 7 → (xI (takeX (xI σ (B + 20 + i) 7 1) (B + 20 + i) (B + 20 + j)) (B + 20 + i) 2 (σ.1 (B + 20 + j) 10)).1 (B + 20 + i) b = σ.1 (B + 20 + i) b := fun b h1 h2 h3 h4 h5 => by rw [xI_n (by omega), takeX_r (by omega), xI_n (by omega)]
      have s2 : (xI (takeX (xI σ (B + 20 + i) 7 1) (B + 20 + i) (B + 20 + j)) (B + 20 + i) 2 (σ.1 (B + 20 + j) 10)).1 (B + 20 + i) 2 = nI d' := by rw [xI_s, h10, f3]
      have s3 : (xI (takeX (xI σ (B + 20 + i) 7 1) (B + 20 + i) (B + 20 + j)) (B + 20 + i) 2 (σ.1 (B + 20 + j) 10)).1 (B + 20 + i) 3 = nI g' := by rw [xI_n (by omega), takeX_3, r8 8 (by omega), h8, f1]
      have s4 : (xI (takeX (xI σ (B + 20 + i) 7 1) (B + 20 + i) (B + 20 + j)) (B + 20 + i) 2 (σ.1 (B + 20 + j) 10)).1 (B + 20 + i) 4 = nI q' := by rw [xI_n (by omega), takeX_4, r8 9 (by omega), h9, f2]
      have s5 : (xI (takeX (xI σ (B + 20 + i) 7 1) (B + 20 + i) (B + 20 + j)) (B + 20 + i) 2 (σ.1 (B + 20 + j) 10)).1 (B + 20 + i) 5 = if τ.1 11 i = 4 then 1 - nI t' else nI t' := by rw [xI_n (by omega), takeX_5, r8 11 (by omega), h11, f4, t11, k0]
      have s7 : (xI (takeX (xI σ (B + 20 + i) 7 1) (B + 20 + i) (B + 20 + j)) (B + 20 + i) 2 (σ.1 (B + 20 + j) 10)).1 (B + 20 + i) 7 = 1 := by rw [xI_n (by omega), takeX_r (by omega), xI_s]
      have m14 : (xI (toM (xI τ 44 i 1) i j) 14 i ((xI τ 44 i 1).1 40 j)).1 14 i = nI d' := by rw [xI_s, m41 40 (by omega), f3]
      have m15 : (xI (toM (xI τ 44 i 1) i j) 14 i ((xI τ 44 i 1).1 40 j)).1 15 i = nI g' := by rw [xI_n (by omega), toM_15, m41 41 (by omega), f1]
      have m16 : (xI (toM (xI τ 44 i 1) i j) 14 i ((xI τ 44 i 1).1 40 j)).1 16 i = nI q' := by rw [xI_n (by omega), toM_16, m41 42 (by omega), f2]
      have m17 : (xI (toM (xI τ 44 i 1) i j) 14 i ((xI τ 44 i 1).1 40 j)).1 17 i = if τ.1 11 i = 4 then 1 - nI t' else nI t' := by rw [xI_n (by omega), toM_17, m41 43 (by omega), m41 11 (by omega), f4]
      have m44 : (xI (toM (xI τ 44 i 1) i j) 14 i ((xI τ 44 i 1).1 40 j)).1 44 i = 1 := by rw [xI_n (by omega), toM_o (by omega), xI_s]
      have mo : ∀ a c, (a ≠ 14 ∧ a ≠ 15 ∧ a ≠ 16 ∧ a ≠ 17 ∧ a ≠ 44) ∨ c ≠ i → (xI (toM (xI τ 44 i 1) i j) 14 i ((xI τ 44 i 1).1 40 j)).1 a c = τ.1 a c := fun a c q => by
        rcases q with q | q
        · rw [xI_n (by omega), toM_o (by omega), xI_n (by omega)]
        · rw [xI_n (by omega), toM_w q, xI_n (by omega)]
      have h2' : (xI (takeX (xI σ (B + 20 + i) 7 1) (B + 20 + i) (B + 20 + j)) (B + 20 + i) 2 (σ.1 (B + 20 + j) 10)).2 B 0 = σ.2 B 0 := rfl
      obtain ⟨t2, ht2, ht2e⟩ : ∃ t2, t2 < 2 ∧ (if τ.1 11 i = 4 then 1 - nI t' else nI t') = nI t2 := by
        split
        · exact ⟨1 - t', by omega, one_sub c4⟩
        · exact ⟨t', c4, rfl⟩
      rw [ht2e] at s5 m17
      generalize xI (takeX (xI σ (B + 20 + i) 7 1) (B + 20 + i) (B + 20 + j)) (B + 20 + i) 2 (σ.1 (B + 20 + j) 10) = S' at *
      generalize xI (toM (xI τ 44 i 1) i j) 14 i ((xI τ 44 i 1).1 40 j) = U' at *
      have hv17 : ∀ a c, a ≤ 17 → ¬ (11 ≤ a ∧ c = i) → U'.1 a c = τ.1 a c := fun a c q q2 => mo a c (by omega)
      refine ⟨⟨TW_upd hT hG8 hσ h2' hv17 ⟨?_, ?_, ?_, ?_, ?_, ?_, ?_⟩, WF_upd hW hv17 ⟨k, p, d', g', q', t2, ⟨b1, b2, c3, c1, by rw [mo 8 _ (by omega)]; exact c2, ht2⟩, by rw [mo 11 _ (by omega)]; exact e1, by rw [mo 13 _ (by omega)]; exact e2, m14, m15, m16, m17⟩⟩, ⟨fun w hw => ?_, fun w hw => ?_⟩, ⟨fun w h1 h2 => ?_, fun w hw h5 => ?_⟩, fun w hw => ?_⟩
      · rw [s0 0 (by omega) (by omega) (by omega) (by omega) (by omega), mo 11 _ (by omega)]; exact k0
      · rw [s0 1 (by omega) (by omega) (by omega) (by omega) (by omega), mo 13 _ (by omega)]; exact k1
      · rw [s2, m14]
      · rw [s3, m15]
      · rw [s4, m16]
      · rw [s5, m17]
      · rw [s0 6 (by omega) (by omega) (by omega) (by omega) (by omega), mo 12 _ (by omega)]; exact k6
      · have hs : ∀ b, 8 ≤ b → S'.1 (B + 20 + w) b = σ.1 (B + 20 + w) b := fun b hb => by
          by_cases e : w = i
          · rw [e]; exact s0 b (by omega) (by omega) (by omega) (by omega) (by omega)
          · exact hσ _ _ (by omega)
        rw [hs 8 (by omega), hs 9 (by omega), hs 10 (by omega), hs 11 (by omega), mo 41 _ (by omega), mo 42 _ (by omega), mo 40 _ (by omega), mo 43 _ (by omega)]
        exact hH w hw
      · simp only [mo 8 _ (Or.inl (by omega)), mo 40 _ (Or.inl (by omega)), mo 41 _ (Or.inl (by omega)), mo 42 _ (Or.inl (by omega)), mo 43 _ (Or.inl (by omega))]
        exact hWH w hw
      · rw [mo 15 w (Or.inr (by omega)), mo 41 _ (Or.inl (by omega))]
        exact hO w (by omega) h2
      · by_cases e : w = i
        · rw [e, mo 11 _ (Or.inl (by omega)), e1] at h5
          exact absurd h5 hk5
        · rw [mo _ w (Or.inr e)] at h5
          rw [mo _ w (Or.inr e), mo _ w (Or.inr e), mo _ w (Or.inr e), mo _ w (Or.inr e), mo _ w (Or.inr e), mo _ w (Or.inr e)]
          exact hL w hw h5
      · by_cases e : w = i
        · rw [e, s7, m44]
          exact ⟨rfl, Or.inr rfl⟩
        · rw [hσ _ _ (by omega), mo _ w (Or.inr e)]
          exact hM w (by omega)
    · rw [if_neg ht, if_neg (fun q => ht (he.mp q))]
      have hσ : ∀ a b, a ≠ B + 20 + i → (xI σ (B + 20 + i) 7 1).1 a b = σ.1 a b := fun a b q => xI_n (by omega)
      have hσ7 : ∀ a b, b ≠ 7 → (xI σ (B + 20 + i) 7 1).1 a b = σ.1 a b := fun a b q => xI_n (by omega)
      have hv : ∀ a c, a ≠ 44 → (xI τ 44 i 1).1 a c = τ.1 a c := fun a c q => xI_n (by omega)
      have hv17 : ∀ a c, a ≤ 17 → ¬ (11 ≤ a ∧ c = i) → (xI τ 44 i 1).1 a c = τ.1 a c := fun a c q _ => hv a c (by omega)
      refine ⟨⟨TW_upd hT hG8 hσ rfl hv17 ⟨?_, ?_, ?_, ?_, ?_, ?_, ?_⟩, WF_upd hW hv17 (wfW_v (fun a _ _ => hv a i (by omega)) (fun g => hv 8 g (by omega)) (hW.2.2.1 i hi))⟩, ⟨fun w hw => ?_, fun w hw => ?_⟩, ⟨fun w h1 h2 => ?_, fun w hw h5 => ?_⟩, fun w hw => ?_⟩
      · rw [hσ7 _ _ (by omega), hv _ _ (by omega)]; exact k0
      · rw [hσ7 _ _ (by omega), hv _ _ (by omega)]; exact k1
      · rw [hσ7 _ _ (by omega), hv _ _ (by omega)]; exact k2
      · rw [hσ7 _ _ (by omega), hv _ _ (by omega)]; exact k3
      · rw [hσ7 _ _ (by omega), hv _ _ (by omega)]; exact k4
      · rw [hσ7 _ _ (by omega), hv _ _ (by omega)]; exact k5
      · rw [hσ7 _ _ (by omega), hv _ _ (by omega)]; exact k6
      · rw [hσ7 _ _ (by omega), hσ7 _ _ (by omega), hσ7 _ _ (by omega), hσ7 _ _ (by omega), hv _ _ (by omega), hv _ _ (by omega), hv _ _ (by omega), hv _ _ (by omega)]
        exact hH w hw
      · simp only [hv 8 _ (by omega), hv 40 _ (by omega), hv 41 _ (by omega), hv 42 _ (by omega), hv 43 _ (by omega)]
        exact hWH w hw
      · rw [hv _ _ (by omega), hv _ _ (by omega)]
        exact hO w (by omega) h2
      · rw [hv _ _ (by omega)] at h5
        rw [hv _ _ (by omega), hv _ _ (by omega), hv _ _ (by omega), hv _ _ (by omega), hv _ _ (by omega), hv _ _ (by omega)]
        exact hL w hw h5
      · by_cases e : w = i
        · rw [e, xI_s, xI_s]
          exact ⟨rfl, Or.inr rfl⟩
        · rw [hσ _ _ (by omega), xI_n (by omega)]
          exact hM w (by omega)
