/-! one more gait -/
theorem TA_gait {B G N l a : Nat} {σ σ' : xS} {v v' : Nat → Nat → Int32} {st : Nat → Nat} (hA : TA B G N σ v) (hG : G < 8) (hl : 1 ≤ l ∧ l ≤ 8) (ha : a < 3) (hst : ∀ j, j < l → st j < 4) (hσ : ∀ c b, c ≠ B + 10 + G → (c ≠ B ∨ b ≠ 1) → σ'.1 c b = σ.1 c b) (hσ2 : σ'.2 B 0 = σ.2 B 0) (x0 : σ'.1 (B + 10 + G) 0 = nI l) (x1 : σ'.1 (B + 10 + G) 1 = nI a) (x2 : ∀ j, j < l → xshr (σ'.1 (B + 10 + G) 2) (2 * nI j) &&& 3 = nI (st j)) (xB : σ'.1 B 1 = nI (G + 1)) (hv : ∀ c b, (c < 7 ∨ 9 < c) ∨ (c = 7 ∧ b < 8 * G) ∨ ((c = 8 ∨ c = 9) ∧ b ≠ G) → (c ≠ 0 ∨ b ≠ 0) → v' c b = v c b) (v0 : v' 0 0 = nI (G + 1)) (v8 : v' 8 G = nI l) (v9 : v' 9 G = nI a) (v7 : ∀ j, j < l → v' 7 (8 * G + j) = nI (st j)) : TA B (G + 1) N σ' v' := by
  obtain ⟨⟨⟨⟨b1, b2⟩, hg, hw, hl'⟩, ⟨⟨d1, d2, d3, d4⟩, e1, e2, e3⟩⟩, ⟨c1, c2, c3⟩, c4⟩ := hA
  have q10 : ∀ b, v' 10 b = v 10 b := fun b => hv 10 b (by omega) (by omega)
  have q8 : ∀ g, g < G → v' 8 g = v 8 g := fun g q => hv 8 g (by omega) (by omega)
  have q9 : ∀ g, g < G → v' 9 g = v 9 g := fun g q => hv 9 g (by omega) (by omega)
  refine ⟨⟨⟨⟨xB, by rw [hσ _ _ (by omega) (by omega)]; exact b2⟩, fun g hg' => ?_, fun w hw' => ?_, ?_⟩, ⟨⟨by omega, d2, v0, by rw [hv 0 1 (by omega) (by omega)]; exact d4⟩, fun g hg' => ?_, fun w hw' => ?_, fun p hp => by rw [q10]; exact e3 p hp⟩⟩, ⟨?_, ?_, ?_⟩, by rw [hσ2]; exact c4⟩
  · by_cases e : g = G
    · rw [e]
      refine ⟨x0.trans v8.symm, x1.trans v9.symm, fun j hj => ?_⟩
      rw [v8, tn_nI (by omega)] at hj
      rw [x2 j hj, v7 j hj]
    · have hgG : g < G := by omega
      obtain ⟨f1, f2, f3⟩ := hg g hgG
      obtain ⟨l', a', ⟨_, l2, _⟩, l3, _⟩ := e1 g hgG
      refine ⟨by rw [hσ _ _ (by omega) (by omega), q8 g hgG]; exact f1, by rw [hσ _ _ (by omega) (by omega), q9 g hgG]; exact f2, fun j hj => ?_⟩
      rw [q8 g hgG] at hj
      have hj8 : j < 8 := by rw [l3, tn_nI (by omega)] at hj; omega
      rw [hσ _ _ (by omega) (by omega), hv 7 _ (by omega) (by omega)]
      exact f3 j hj
  · obtain ⟨k0, k1, k2, k3, k4, k5, k6⟩ := hw w hw'
    refine ⟨?_, ?_, ?_, ?_, ?_, ?_, ?_⟩ <;> rw [hσ _ _ (by omega) (by omega), hv _ w (by omega) (by omega)] <;> assumption
  · rw [hσ2]; intro p hp; rw [q10]; exact hl' p hp
  · by_cases e : g = G
    · rw [e]
      exact ⟨l, a, ⟨hl.1, hl.2, ha⟩, v8, v9, fun j hj => ⟨st j, hst j hj, v7 j hj⟩⟩
    · have hgG : g < G := by omega
      obtain ⟨l', a', ⟨l1, l2, l3⟩, f1, f2, f3⟩ := e1 g hgG
      refine ⟨l', a', ⟨l1, l2, l3⟩, by rw [q8 g hgG]; exact f1, by rw [q9 g hgG]; exact f2, fun j hj => ?_⟩
      rw [hv 7 _ (by omega) (by omega)]
      exact f3 j hj
  · obtain ⟨k, p, d, g, q, t, ⟨b1, b2, b3, b4, b5, b6⟩, f1, f2, f3, f4, f5, f6⟩ := e2 w hw'
    have m : ∀ c, 11 ≤ c → v' c w = v c w := fun c q => hv c w (by omega) (by omega)
    exact ⟨k, p, d, g, q, t, ⟨b1, b2, b3, by omega, by rw [q8 g b4]; exact b5, b6⟩, by rw [m 11 (by omega)]; exact f1, by rw [m 13 (by omega)]; exact f2, by rw [m 14 (by omega)]; exact f3, by rw [m 15 (by omega)]; exact f4, by rw [m 16 (by omega)]; exact f5, by rw [m 17 (by omega)]; exact f6⟩
  · rw [hσ _ _ (by omega) (by omega), hv _ _ (by omega) (by omega)]; exact c1
  · rw [hσ _ _ (by omega) (by omega), hv _ _ (by omega) (by omega)]; exact c2
  · rw [hσ _ _ (by omega) (by omega), hv _ _ (by omega) (by omega)]; exact c3
