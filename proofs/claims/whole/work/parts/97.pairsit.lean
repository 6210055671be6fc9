/-! why no sights -/
theorem dv_3 : ∀ k, k < 161 → nI k / 3 = nI (k / 3) := by decide +kernel
theorem br_3 {n : Int32} {k : Nat} (hk : k ≤ 160) (hn : 0 ≤ n) : (3 : Int32).toInt64 * n.toInt64 ≤ (nI k).toInt64 ↔ ¬ nI k / 3 < n := by
  have a1 := t_le.mp hn
  have a2 := Int32.toInt_lt n
  rw [t_0] at a1
  have e3 : (3 : Int32).toInt = 3 := rfl
  rw [dv_3 k (by omega), t_lt, t_nI (by omega), Int64.le_iff_toInt_le, Int64.toInt_mul, Int32.toInt_toInt64, Int32.toInt_toInt64, Int32.toInt_toInt64, t_nI (by omega), e3, Int.bmod_def]
  generalize n.toInt = z at *
  split <;> omega
theorem sg_si {G N s i : Nat} {σ τ : xS} (h : RRn G N σ τ) (hs : s < 8) (h1 : τ.1 23 s = 1) (hi : 3 * i + 2 < tn (τ.1 25 s)) : sgB σ (10 + s) i = siB τ (nI s) i := by
  obtain ⟨-, ⟨c1, c2⟩, -⟩ := RRn_G h
  have hS := h.2.1 s hs
  have e3 : (3 : Int32) * nI i = nI (3 * i) := by rw [show (3 : Int32) = nI 3 from rfl, pk_mul]
  have m0 := nm_in hs hS h1 (i := 3 * i) (by omega)
  have m1 := nm_in hs hS h1 (i := 3 * i + 1) (by omega)
  have m2 := nm_in hs hS h1 (i := 3 * i + 2) (by omega)
  unfold sgB siB
  rw [e3, show nI (3 * i) + 1 = nI (3 * i + 1) from nI_1 _, show nI (3 * i) + 2 = nI (3 * i + 2) by rw [show (2 : Int32) = nI 2 from rfl, nI_add], m0, m1, m2, c1, c2]
  refine decide_eq_decide.mpr ?_
  rw [p4849]
theorem sit_eq {G N s : Nat} {σ τ : xS} (h : RRn G N σ τ) (hs : s < 8) (n : Int32) : sitM τ (nI s) n = if wnr σ (10 + s) = 0 then wns σ (10 + s) n else wnr σ (10 + s) := by
  have hw := wt_eq h hs
  have hN := (RRn_G h).1.2
  unfold sitM brM
  rw [hw]
  rcases sh_c hN (h.2.1 s hs) with ⟨b1, b2, b3⟩ | ⟨b1, -, b3⟩ | ⟨b1, -, b3⟩
  · rw [b3]; simp (decide := true) only [if_true, if_false]
  · obtain ⟨-, e4, -⟩ := sh_row (h.2.1 s hs) b1
    obtain ⟨m, hm, em⟩ := rle (k := 160) (by omega) (h.2.1 s hs).1
    unfold wns
    rw [b3, if_pos (rfl : (0 : Int32) = 0), if_pos (rfl : (0 : Int32) = 0), e4, tn_nI (i := s) (by omega), em]
    by_cases hn : n < 0
    · rw [if_pos hn, if_pos hn, if_pos (show ¬ (-4 : Int32) = 0 by decide)]
    · rw [if_neg hn, if_neg hn]
      have hb := br_3 hm (Int32.not_lt.mp hn)
      by_cases hz : nI m / 3 < n
      · rw [if_pos hz, if_pos (fun z => hb.mp z hz), if_pos (show ¬ (-5 : Int32) = 0 by decide)]
      · rw [if_neg hz, if_neg (not_not_intro (hb.mpr hz)), if_neg (not_not_intro (rfl : (0 : Int32) = 0))]
        by_cases h10 : 10 < n
        · rw [if_pos h10, if_pos h10]
        · rw [if_neg h10, if_neg h10]
          obtain ⟨k, hk, rfl⟩ := rle (k := 10) (by omega) ⟨Int32.not_lt.mp hn, Int32.not_lt.mp h10⟩
          rw [tn_nI (i := k) (by omega), xany_congr (fun i hi => sg_si h hs b1 ?_)]
          rw [dv_3 m (by omega)] at hz
          have : k ≤ m / 3 := by
            rcases Nat.lt_or_ge (m / 3) k with z | z
            · exact absurd (nI_lt z (by omega)) hz
            · exact z
          rw [em, tn_nI (by omega)]
          omega
  · rw [b3]; simp (decide := true) only [if_true, if_false]
