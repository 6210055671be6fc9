theorem iu_ok : ∀ K, K < 7 → ∀ k, k < 7 → (iuV (nI K) (nI k) = 0 ↔ (¬ nI k = 0 ∧ ¬ nI k = nI K ∧ ¬ (nI k = 1 ∧ nI K = 5) ∧ ¬ (nI k = 3 ∧ (nI K = 3 ∨ nI K = 4 ∨ nI K = 6)))) := by decide +kernel
theorem ok_says {G N : Nat} {σ τ : xS} (h : RRn G N σ τ) (s k : Int32) : OKp (saysX σ s k) (sayM τ s k) := by
  obtain ⟨⟨hG, hN⟩, ⟨c1, c2⟩, ⟨c3, c4⟩⟩ := RRn_G h
  unfold saysX sayM
  by_cases hs : 0 ≤ s ∧ s < 8
  · rw [if_pos hs]
    by_cases hk : 0 ≤ k ∧ k ≤ 6
    · rw [if_neg (not_not_intro hk), if_neg (show ¬ (¬ (0 ≤ s ∧ s < 8) ∨ k < 0 ∨ 6 < k) from fun q => q.elim (fun z => z hs) (fun z => (nrg.mpr z) hk))]
      obtain ⟨s', hs', rfl⟩ := shs hs
      rw [tn_nI (i := s') (by omega)]
      rcases sh_c hN (h.2.1 s' hs') with ⟨b1, b2, b3⟩ | ⟨b1, ⟨o, o4, b4, b5⟩, b3⟩ | ⟨b1, ⟨w, hw, b4, b5⟩, b3⟩
      · rw [b2, b1, if_neg (show ¬ (100 : Int32) ≤ -1 by decide), if_pos (show ¬ ((0 : Int32) ≤ -1 ∧ (-1 : Int32) < 100) by decide), if_neg (show ¬ (0 : Int32) = 1 by decide), if_pos (rfl : (0 : Int32) = 0)]
        exact no_p rk3 h
      · rw [b5, b1, if_pos (show (100 : Int32) ≤ nI (100 + o) from (nI_leI (a := 100) (b := 100 + o) (by omega) (by omega)).mpr (by omega)), if_pos (rfl : (1 : Int32) = 1)]
        exact no_p rk2 h
      · have hw1 : ¬ (100 : Int32) ≤ nI w := fun q => by
          have := (nI_leI (a := 100) (b := w) (by omega) (by omega)).mp q
          omega
        have hw2 : 0 ≤ nI w ∧ nI w < 100 := ⟨nI_pos' (by omega), (nI_ltI (b := 100) (by omega) (by omega)).mpr (by omega)⟩
        rw [b5, b1, if_neg hw1, if_neg (not_not_intro hw2), if_neg (show ¬ (2 : Int32) = 1 by decide), if_neg (show ¬ (2 : Int32) = 0 by decide), b4, whoK_n (by omega), tn_nI (i := w) (by omega)]
        obtain ⟨k0, -⟩ := h.1.1.1.2.2.1 w hw
        obtain ⟨K, p, d, g0, q, t, ⟨hK, -⟩, e1, -⟩ := h.1.1.2.2.2.1 w hw
        have hse := says_eq h hw k hk
        obtain ⟨k', hk', rfl⟩ := rle (k := 6) (by omega) hk
        rw [k0, e1]
        have hi := iu_ok K hK k' (by omega)
        by_cases hc : iuV (nI K) (nI k') = 0
        · rw [if_pos hc, if_pos (hi.mp hc)]
          exact no_p rk2 h
        · rw [if_neg hc, if_neg (fun z => hc (hi.mpr z))]
          exact ⟨hse, G, N, h⟩
    · rw [if_pos hk, if_pos (Or.inr (nrg.mp hk))]
      exact no_p rk1 h
  · rw [if_neg hs, if_pos (Or.inl hs)]
    exact no_p rk1 h
