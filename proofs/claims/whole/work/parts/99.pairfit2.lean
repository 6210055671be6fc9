theorem snL_ge {σ : xS} {K : Nat} : ∀ {n i : Nat}, i < n → nmA σ K (3 * nI i) ≤ snL σ K n
  | n + 1, i, hi => by
    rw [snL_s]
    by_cases e : i = n
    · subst e
      split
      · exact Int32.le_refl _
      · rename_i h; exact Int32.not_lt.mp h
    · have ih := snL_ge (σ := σ) (K := K) (n := n) (i := i) (by omega)
      split
      · rename_i h; exact Int32.le_of_lt (Int32.lt_of_le_of_lt ih h)
      · exact ih
theorem fiO_L {T : xS} {s : Int32} {n L M : Nat} (h : ∀ i, i < n → ∀ b, L < b → b ≤ 400 → ¬ inM T s (3 * nI i) = nI b) (h1 : L + 1 ≤ M) (h2 : M ≤ 401) : fiO T s n M = fiO T s n (L + 1) := by
  obtain ⟨j, rfl⟩ := Nat.le.dest h1
  exact fiO_end h h2
theorem sm_fa {G N : Nat} {S T : xS} (hT : TW 200 G N S T.1) (hW : WF G N T.1) (p g : Int32) : smX S 200 p g = faM T p g := by
  have hN := hW.1.2.1
  unfold smX faM
  rw [hT.1.2, hW.1.2.2.2, tn_nI (by omega)]
  refine xany_congr (fun i hi => ?_)
  unfold faP
  rw [(hT.2.2.1 i hi).2.1, (hT.2.2.1 i hi).2.2.2.1]
/-- what the sights say: the same -/
theorem fits_eq {G N K n M : Nat} {s : Int32} {S T : xS} (hT : TW 200 G N S T.1) (hW : WF G N T.1) (hM : M = 401) (hn : ∀ i, i < n → (nmA S K (3 * nI i) = inM T s (3 * nI i) ∧ nmA S K (3 * nI i + 1) = inM T s (3 * nI i + 1) ∧ nmA S K (3 * nI i + 2) = inM T s (3 * nI i + 2)) ∧ nmA S K (3 * nI i) ≤ 400) : snO S K n (tn (snL S K n) + 1) = fiO T s n M := by
  have hL := snL_r (fun i hi => (hn i hi).2) n (Nat.le_refl _)
  have hL4 := sn400 hL.1 hL.2
  have hP : ∀ b i, i < n → snP S K b i = fiP T s b i := fun b i hi => by
    obtain ⟨⟨a1, a2, a3⟩, -⟩ := hn i hi
    unfold snP fiP
    have t := (beats_ok hT hW b).1
    rw [a1, a2, a3, sm_fa t.1 t.2]
  rw [fiO_L (L := tn (snL S K n)) (fun i hi b h1 h2 e => ?_) (by omega) (by omega)]
  · exact snO_fiO (fun b _ i hi => hP b i hi)
  · have hg := snL_ge (σ := S) (K := K) hi
    rw [(hn i hi).1.1, e] at hg
    have g1 := t_le.mp hg
    rw [t_nI (by omega)] at g1
    rw [t_tn] at h1
    omega
theorem wnr_k {σ : xS} {K : Nat} (h : ¬ wnr σ K = 0) : ∃ k, rfK (wnr σ K) (wnr σ K) k := by
  unfold wnr at *
  by_cases h1 : 0 ≤ σ.1 K 0 ∧ σ.1 K 0 < 100
  · rw [if_pos h1]; exact ⟨2, rk2⟩
  · rw [if_neg h1] at *
    by_cases h2 : 100 ≤ σ.1 K 0
    · rw [if_pos h2] at h; exact absurd rfl h
    · rw [if_neg h2]; exact ⟨3, rk3⟩
theorem wns_k {σ : xS} {K : Nat} {n : Int32} (h : ¬ wns σ K n = 0) : ∃ k, rfK (wns σ K n) (wns σ K n) k := by
  unfold wns at *
  by_cases h1 : n < 0
  · rw [if_pos h1]; exact ⟨4, rk4⟩
  · rw [if_neg h1] at *
    by_cases h2 : σ.1 K 1 / 3 < n
    · rw [if_pos h2]; exact ⟨5, rk5⟩
    · rw [if_neg h2] at *
      by_cases h3 : 10 < n
      · rw [if_pos h3]; exact ⟨6, rk6⟩
      · rw [if_neg h3] at *
        by_cases h4 : xany (sgB σ K) (tn n) = true
        · rw [if_pos h4]; exact ⟨6, rk6⟩
        · rw [if_neg h4] at h; exact absurd rfl h
theorem wns_r {G N s : Nat} {σ τ : xS} {n : Int32} (h : RRn G N σ τ) (hs : s < 8) (h1 : τ.1 23 s = 1) (hz : wns σ (10 + s) n = 0) : ∀ i, i < tn n → 3 * i + 2 < tn (τ.1 25 s) := by
  obtain ⟨-, e4, -⟩ := sh_row (h.2.1 s hs) h1
  obtain ⟨m, hm, em⟩ := rle (k := 160) (by omega) (h.2.1 s hs).1
  obtain ⟨k, hk, rfl⟩ := rle (k := 10) (by omega) (wns_0 hz).1
  intro i hi
  rw [tn_nI (by omega)] at hi
  unfold wns at hz
  by_cases h1 : nI k < 0
  · rw [if_pos h1] at hz; exact absurd hz (by decide)
  · rw [if_neg h1] at hz
    by_cases h2 : σ.1 (10 + s) 1 / 3 < nI k
    · rw [if_pos h2] at hz; exact absurd hz (by decide)
    · rw [e4, em, dv_3 m (by omega)] at h2
      have : k ≤ m / 3 := by
        rcases Nat.lt_or_ge (m / 3) k with z | z
        · exact absurd (nI_lt z (by omega)) h2
        · exact z
      rw [em, tn_nI (by omega)]
      omega
theorem wnr_1 {G N s : Nat} {σ τ : xS} (h : RRn G N σ τ) (hs : s < 8) (hw : wnr σ (10 + s) = 0) : τ.1 23 s = 1 := by
  rcases sh_c (RRn_G h).1.2 (h.2.1 s hs) with ⟨b1, b2, b3⟩ | ⟨b1, -, b3⟩ | ⟨b1, -, b3⟩
  · rw [b3] at hw; exact absurd hw (by decide)
  · exact b1
  · rw [b3] at hw; exact absurd hw (by decide)
/-- the numbers of the sights, in class and reference -/
theorem sg_nums {G N s : Nat} {σ τ : xS} {n : Int32} (h : RRn G N σ τ) (hs : s < 8) (hw : wnr σ (10 + s) = 0) (hz : wns σ (10 + s) n = 0) : ∀ i, i < tn n → (nmA σ (10 + s) (3 * nI i) = inM τ (nI s) (3 * nI i) ∧ nmA σ (10 + s) (3 * nI i + 1) = inM τ (nI s) (3 * nI i + 1) ∧ nmA σ (10 + s) (3 * nI i + 2) = inM τ (nI s) (3 * nI i + 2)) ∧ nmA σ (10 + s) (3 * nI i) ≤ 400 := by
  intro i hi
  have h1 := wnr_1 h hs hw
  have hr := wns_r h hs h1 hz i hi
  have hS := h.2.1 s hs
  have e3 : (3 : Int32) * nI i = nI (3 * i) := by rw [show (3 : Int32) = nI 3 from rfl, pk_mul]
  have m0 := nm_in hs hS h1 (i := 3 * i) (by omega)
  have m1 := nm_in hs hS h1 (i := 3 * i + 1) (by omega)
  have m2 := nm_in hs hS h1 (i := 3 * i + 2) (by omega)
  refine ⟨?_, ?_⟩
  · rw [e3, show nI (3 * i) + 1 = nI (3 * i + 1) from nI_1 _, show nI (3 * i) + 2 = nI (3 * i + 2) by rw [show (2 : Int32) = nI 2 from rfl, nI_add], m0, m1, m2]
    exact ⟨rfl, rfl, rfl⟩
  · have t := (wns_0 hz).2 i hi
    unfold sgB at t
    have t := of_decide_eq_false t
    exact (Classical.not_not.mp (fun q => t (Or.inl q))).2
theorem FR_th0 {G N : Nat} {σ τ : xS} (h : RRn G N σ τ) (n : Int32) : FR σ (thX σ n) := by
  obtain ⟨⟨hG, hN⟩, ⟨c1, c2⟩, ⟨c3, c4⟩⟩ := RRn_G h
  exact FR_th (by rw [c3, tn_nI (by omega)]; exact hN) (by rw [c1, tn_nI (by omega)]; exact hG) n
theorem OKp_2 {V V' : Int32} {S T : xS} (h1 : V = V') (h2 : RR S T) : OKp (V, S) (V', T) := ⟨h1, h2⟩
theorem sit_no {τ : xS} {s n : Int32} (hs : ¬ (0 ≤ s ∧ s < 8)) : sitM τ s n = -1 := by
  have e : wtM τ s = -1 := by unfold wtM; rw [if_pos hs]
  have e2 : brM τ s n 3 = -1 := by unfold brM; rw [e, if_neg (by decide)]
  unfold sitM
  rw [e2, if_pos (by decide)]
theorem ok_fit {G N : Nat} {σ τ : xS} (h : RRn G N σ τ) (s n : Int32) : OKp (fitX σ s n) (fitM τ s n) := by
  unfold fitX fitM
  by_cases hs : 0 ≤ s ∧ s < 8
  · obtain ⟨s', hs', rfl⟩ := rgl (n := 8) (by omega) hs
    rw [if_pos hs, sit_eq h hs' n, tn_nI (i := s') (by omega)]
    by_cases hw : wnr σ (10 + s') = 0
    · rw [if_pos hw, if_pos hw]
      by_cases hz : wns σ (10 + s') n = 0
      · rw [if_pos hz, if_neg (not_not_intro hz)]
        have hF := FR_th0 h 0
        have hK : xSh (10 + s') := by have := sh8 hs; rwa [tn_nI (by omega)] at this
        have t := th_b h 0
        refine OKp_2 ?_ (RR_th h 0 _ _)
        unfold snV fitsV
        refine fits_eq t.1 t.2 rfl (fun i hi => ?_)
        obtain ⟨⟨a1, a2, a3⟩, a4⟩ := sg_nums h hs' hw hz i hi
        rw [nmA_F hF hK, nmA_F hF hK, nmA_F hF hK]
        exact ⟨⟨a1, a2, a3⟩, a4⟩
      · rw [if_neg hz, if_pos hz]
        obtain ⟨k, hk⟩ := wns_k hz
        exact no_p hk h
    · rw [if_neg hw, if_neg hw, if_pos hw]
      obtain ⟨k, hk⟩ := wnr_k hw
      exact no_p hk h
  · rw [if_neg hs, sit_no hs, if_pos (by decide)]
    exact no_p rk1 h
