/-! what every contract wants of its start, out of the relation -/
theorem PXh {G N : Nat} {σ τ : xS} (h : RRn G N σ τ) : (0 ≤ σ.1 100 2) ∧ (σ.1 100 2 ≤ 6) ∧ (0 ≤ σ.1 100 1) ∧ (σ.1 100 1 ≤ 8) ∧ (∀ k, k < 8 → 0 ≤ σ.1 (10 + k) 1) ∧ (0 ≤ τ.1 0 1) ∧ (τ.1 0 1 ≤ 6) ∧ (0 ≤ τ.1 0 0) ∧ (τ.1 0 0 ≤ 8) ∧ BOK (bgM τ) ∧ BOK τ ∧ (∀ s, (0 ≤ s ∧ s < 8) → 0 ≤ τ.1 25 (tn s) ∧ τ.1 25 (tn s) ≤ 160) := by
  obtain ⟨⟨hG, hN⟩, ⟨c1, c2⟩, ⟨c3, c4⟩⟩ := RRn_G h
  have t := th_b h 0
  rw [c1, c2, c3, c4]
  refine ⟨nI_pos' (by omega), nI_le (b := 6) hN (by omega), nI_pos' (by omega), nI_le (b := 8) hG (by omega), fun k hk => (h.2.1 k hk).2.1.1, nI_pos' (by omega), nI_le (b := 6) hN (by omega), nI_pos' (by omega), nI_le (b := 8) hG (by omega), WF_BOK t.1 t.2, WF_BOK h.1.1.1 h.1.1.2, fun s hs => ?_⟩
  obtain ⟨s', hs', rfl⟩ := rgl (n := 8) (by omega) hs
  rw [tn_nI (by omega)]
  exact (h.2.1 s' hs').1
theorem pre_says {G N : Nat} {σ τ : xS} (h : RRn G N σ τ) : ∀ s : Int32, (0 ≤ s ∧ s < 8) → τ.1 23 (tn s) = 0 ∨ τ.1 23 (tn s) = 1 ∨ (0 ≤ τ.1 26 (tn s) ∧ τ.1 26 (tn s) < τ.1 0 1) := by
  obtain ⟨⟨hG, hN⟩, ⟨c1, c2⟩, ⟨c3, c4⟩⟩ := RRn_G h
  intro s hs
  obtain ⟨s', hs', rfl⟩ := rgl (n := 8) (by omega) hs
  rw [tn_nI (by omega), c4]
  rcases (h.2.1 s' hs').2.2 with ⟨b1, -⟩ | ⟨b1, -⟩ | ⟨b1, w, hw, b2, -⟩
  · exact Or.inl b1
  · exact Or.inr (Or.inl b1)
  · exact Or.inr (Or.inr (by rw [b2]; exact ⟨nI_pos' (by omega), nI_lt hw (by omega)⟩))
theorem pre_gof {G N : Nat} {σ τ : xS} (h : RRn G N σ τ) : ∀ g : Int32, (0 ≤ g ∧ g < τ.1 0 0) → τ.1 8 (tn g) ≤ 8 := by
  obtain ⟨⟨hG, hN⟩, ⟨c1, c2⟩, ⟨c3, c4⟩⟩ := RRn_G h
  intro g hg
  rw [c2] at hg
  obtain ⟨g', hg', rfl⟩ := rgl (by omega) hg
  rw [tn_nI (by omega)]
  obtain ⟨l, a, ⟨l1, l2, l3⟩, f1, f2, f3⟩ := h.1.1.2.2.1 g' hg'
  rw [f1]
  exact nI_le (b := 8) l2 (by omega)
theorem pre_str {G N : Nat} {σ τ : xS} (h : RRn G N σ τ) (s : Int32) : wtM τ s = 0 → SQP (stq0 τ s) := by
  intro hw
  by_cases hs : 0 ≤ s ∧ s < 8
  · obtain ⟨s', hs', rfl⟩ := rgl (n := 8) (by omega) hs
    rw [wt_eq h hs'] at hw
    obtain ⟨g0, hE, A4, x1, x2, y1, y2, y5⟩ := st_begin h hs' (wnr_1 h hs' hw)
    refine SQP_ok hE (show 160 * s' ≤ 1120 by omega) g0 (fun j hj => ?_)
    rw [y1 29 j (by omega) (by omega)]
    exact h.2.2.2.2.2.2 j hj
  · unfold wtM at hw
    rw [if_pos hs] at hw
    exact absurd hw (by decide)
theorem pre_alo {G N : Nat} {σ τ : xS} (h : RRn G N σ τ) (x : Int32) : (0 ≤ x ∧ x < τ.1 0 1) → AOK (bgM τ) (tn x) := by
  obtain ⟨⟨hG, hN⟩, ⟨c1, c2⟩, ⟨c3, c4⟩⟩ := RRn_G h
  intro hx
  rw [c4] at hx
  obtain ⟨w, hw, rfl⟩ := rgl (by omega) hx
  rw [tn_nI (by omega)]
  exact fun k => AL_dy hG (AL_k hG (AL_0 h hw) k)
theorem HQ_I {N p : Nat} {g : Int32} {τ : xS} {F : Int32 × Int32 × xS} (hN : N < 6) (hτ : τ.1 0 1 = nI N) (h : HQ N τ F.2.2) : ∀ d, HQ N τ (hqI g (nI N) p F d).2.2
  | 0 => h
  | d + 1 => by
    rw [hqI_s]
    unfold hqD
    exact HQ_Z hτ hN (HQ_I hN hτ h d)
theorem HQ_O {N D : Nat} {g : Int32} {τ : xS} (hN : N < 6) (hτ : τ.1 0 1 = nI N) : ∀ p, HQ N τ (hqO D τ g p).2.2
  | 0 => HQ_0
  | p + 1 => by
    rw [hqO_s, hτ]
    unfold hqQ
    split
    · exact HQ_O hN hτ p
    · exact HQ_I hN hτ (HQ_O hN hτ p) D
theorem pre_hir {G N D : Nat} {σ τ : xS} (hD : D = 4) (h : RRn G N σ τ) (g : Int32) : (0 ≤ g ∧ g < τ.1 0 0) → ¬ τ.1 0 1 = 6 → HOK D τ g := by
  obtain ⟨⟨hG, hN⟩, ⟨c1, c2⟩, ⟨c3, c4⟩⟩ := RRn_G h
  intro hg h6
  rw [c2] at hg
  rw [c4] at h6
  have hN6 : N < 6 := by
    rcases Nat.lt_or_ge N 6 with z | z
    · exact z
    · refine absurd ?_ h6
      rw [show N = 6 by omega]; rfl
  obtain ⟨g', hg', rfl⟩ := rgl (by omega) hg
  intro p hp d hd
  rw [c4]
  have t := hire_TW h hN6 (HX_0 h) (HQ_I (p := p) (g := nI g') hN6 c4 (HQ_O (D := D) (g := nI g') hN6 c4 p) d) hp hd hg'
  exact WF_BOK t.1 t.2
theorem pre_beg {G N : Nat} {σ τ : xS} (h : RRn G N σ τ) (x : Int32) : (0 ≤ x ∧ x < τ.1 0 1) → ∀ g, g < tn (τ.1 0 0) → BOK (bgM (bnU (bnS fitsT τ x (τ.1 16 (tn x)) g) x (τ.1 16 (tn x)) g)) ∧ ¬ τ.1 8 g = 0 := by
  obtain ⟨⟨hG, hN⟩, ⟨c1, c2⟩, ⟨c3, c4⟩⟩ := RRn_G h
  intro hx g hg
  rw [c4] at hx
  rw [c2, tn_nI (by omega)] at hg
  obtain ⟨w, hw, rfl⟩ := rgl (by omega) hx
  rw [tn_nI (i := w) (by omega)]
  have t := beg_TW h XF_r (MB_S (d0 := τ.1 16 w) h hw g) hw hg
  obtain ⟨l, a, ⟨l1, l2, l3⟩, f1, f2, f3⟩ := h.1.1.2.2.1 g hg
  exact ⟨WF_BOK t.1 t.2, by rw [f1]; exact nI_ne0 (by omega) (by omega)⟩
theorem pX6_row_h {G N : Nat} {σ τ : xS} (h : RRn G N σ τ) (s : Int32) (o : Int32) (n : Int32) : pX6_row [.ref 0, .int s, .int o, .int n] σ := by
  rw [pX6_row_e]
  exact trivial
theorem pX7_row_h {G N : Nat} {σ τ : xS} (h : RRn G N σ τ) (s : Int32) (o : Int32) (n : Int32) : pX7_row [.ref 0, .int s, .int o, .int n] τ := by
  rw [pX7_row_e]
  exact trivial
theorem pX6_set_h {G N : Nat} {σ τ : xS} (h : RRn G N σ τ) (s : Int32) (i : Int32) (v : Int64) : pX6_set [.ref 0, .int s, .int i, .long v] σ := by
  rw [pX6_set_e]
  exact trivial
theorem pX7_set_h {G N : Nat} {σ τ : xS} (h : RRn G N σ τ) (s : Int32) (i : Int32) (v : Int64) : pX7_set [.ref 0, .int s, .int i, .long v] τ := by
  rw [pX7_set_e]
  obtain ⟨a1, a2, a3, a4, a5, b1, b2, b3, b4, b5, b6, b7⟩ := PXh h
  exact (fun s hs => (b7 s hs).2)
theorem pX6_copy_h {G N : Nat} {σ τ : xS} (h : RRn G N σ τ) (p : Int32) (q : Int32) (i : Int32) (j : Int32) (n : Int32) : pX6_copy [.ref 0, .int p, .int q, .int i, .int j, .int n] σ := by
  rw [pX6_copy_e]
  obtain ⟨a1, a2, a3, a4, a5, b1, b2, b3, b4, b5, b6, b7⟩ := PXh h
  exact a5
theorem pX7_copy_h {G N : Nat} {σ τ : xS} (h : RRn G N σ τ) (p : Int32) (q : Int32) (i : Int32) (j : Int32) (n : Int32) : pX7_copy [.ref 0, .int p, .int q, .int i, .int j, .int n] τ := by
  rw [pX7_copy_e]
  obtain ⟨a1, a2, a3, a4, a5, b1, b2, b3, b4, b5, b6, b7⟩ := PXh h
  exact b7
theorem pX6_element_h {G N : Nat} {σ τ : xS} (h : RRn G N σ τ) (s : Int32) (i : Int32) : pX6_element [.ref 0, .int s, .int i] σ := by
  rw [pX6_element_e]
  exact trivial
theorem pX7_element_h {G N : Nat} {σ τ : xS} (h : RRn G N σ τ) (s : Int32) (i : Int32) : pX7_element [.ref 0, .int s, .int i] τ := by
  rw [pX7_element_e]
  obtain ⟨a1, a2, a3, a4, a5, b1, b2, b3, b4, b5, b6, b7⟩ := PXh h
  exact (fun s hs => (b7 s hs).2)
theorem pX6_show_h {G N : Nat} {σ τ : xS} (h : RRn G N σ τ) (s : Int32) (x : Int32) : pX6_show [.ref 0, .int s, .int x] σ := by
  rw [pX6_show_e]
  exact trivial
theorem pX7_show_h {G N : Nat} {σ τ : xS} (h : RRn G N σ τ) (s : Int32) (x : Int32) : pX7_show [.ref 0, .int s, .int x] τ := by
  rw [pX7_show_e]
  exact trivial
theorem pX6_holds_h {G N : Nat} {σ τ : xS} (h : RRn G N σ τ) (s : Int32) : pX6_holds [.ref 0, .int s] σ := by
  rw [pX6_holds_e]
  exact trivial
theorem pX7_holds_h {G N : Nat} {σ τ : xS} (h : RRn G N σ τ) (s : Int32) : pX7_holds [.ref 0, .int s] τ := by
  rw [pX7_holds_e]
  exact trivial
theorem pX6_says_h {G N : Nat} {σ τ : xS} (h : RRn G N σ τ) (s : Int32) (k : Int32) : pX6_says [.ref 0, .int s, .int k] σ := by
  rw [pX6_says_e]
  obtain ⟨a1, a2, a3, a4, a5, b1, b2, b3, b4, b5, b6, b7⟩ := PXh h
  exact ⟨a1, a2⟩
theorem pX7_says_h {G N : Nat} {σ τ : xS} (h : RRn G N σ τ) (s : Int32) (k : Int32) : pX7_says [.ref 0, .int s, .int k] τ := by
  rw [pX7_says_e]
  obtain ⟨a1, a2, a3, a4, a5, b1, b2, b3, b4, b5, b6, b7⟩ := PXh h
  exact ⟨b1, b2, (pre_says h)⟩
theorem pX6_gait_h {G N : Nat} {σ τ : xS} (h : RRn G N σ τ) (s : Int32) (n : Int32) (a : Int32) : pX6_gait [.ref 0, .int s, .int n, .int a] σ := by
  rw [pX6_gait_e]
  obtain ⟨a1, a2, a3, a4, a5, b1, b2, b3, b4, b5, b6, b7⟩ := PXh h
  exact a3
theorem pX7_gait_h {G N : Nat} {σ τ : xS} (h : RRn G N σ τ) (s : Int32) (n : Int32) (a : Int32) : pX7_gait [.ref 0, .int s, .int n, .int a] τ := by
  rw [pX7_gait_e]
  obtain ⟨a1, a2, a3, a4, a5, b1, b2, b3, b4, b5, b6, b7⟩ := PXh h
  exact ⟨b3, b4⟩
theorem pX6_gaitOf_h {G N : Nat} {σ τ : xS} (h : RRn G N σ τ) (g : Int32) (x : Int32) : pX6_gaitOf [.ref 0, .int g, .int x] σ := by
  rw [pX6_gaitOf_e]
  exact trivial
theorem pX7_gaitOf_h {G N : Nat} {σ τ : xS} (h : RRn G N σ τ) (g : Int32) (x : Int32) : pX7_gaitOf [.ref 0, .int g, .int x] τ := by
  rw [pX7_gaitOf_e]
  obtain ⟨a1, a2, a3, a4, a5, b1, b2, b3, b4, b5, b6, b7⟩ := PXh h
  exact ⟨b4, (pre_gof h)⟩
theorem pX6_walker_h {G N : Nat} {σ τ : xS} (h : RRn G N σ τ) (k : Int32) (p : Int32) (d : Int32) (g : Int32) (a : Int32) : pX6_walker [.ref 0, .int k, .int p, .int d, .int g, .int a] σ := by
  rw [pX6_walker_e]
  obtain ⟨a1, a2, a3, a4, a5, b1, b2, b3, b4, b5, b6, b7⟩ := PXh h
  exact a1
theorem pX7_walker_h {G N : Nat} {σ τ : xS} (h : RRn G N σ τ) (k : Int32) (p : Int32) (d : Int32) (g : Int32) (a : Int32) : pX7_walker [.ref 0, .int k, .int p, .int d, .int g, .int a] τ := by
  rw [pX7_walker_e]
  obtain ⟨a1, a2, a3, a4, a5, b1, b2, b3, b4, b5, b6, b7⟩ := PXh h
  exact ⟨b1, b2⟩
theorem pX6_walkerOf_h {G N : Nat} {σ τ : xS} (h : RRn G N σ τ) (x : Int32) (y : Int32) : pX6_walkerOf [.ref 0, .int x, .int y] σ := by
  rw [pX6_walkerOf_e]
  exact trivial
theorem pX7_walkerOf_h {G N : Nat} {σ τ : xS} (h : RRn G N σ τ) (x : Int32) (y : Int32) : pX7_walkerOf [.ref 0, .int x, .int y] τ := by
  rw [pX7_walkerOf_e]
  obtain ⟨a1, a2, a3, a4, a5, b1, b2, b3, b4, b5, b6, b7⟩ := PXh h
  exact b2
theorem pX6_wall_h {G N : Nat} {σ τ : xS} (h : RRn G N σ τ) (p : Int32) (b : Int32) : pX6_wall [.ref 0, .int p, .int b] σ := by
  rw [pX6_wall_e]
  obtain ⟨a1, a2, a3, a4, a5, b1, b2, b3, b4, b5, b6, b7⟩ := PXh h
  exact ⟨a1, a2⟩
theorem pX7_wall_h {G N : Nat} {σ τ : xS} (h : RRn G N σ τ) (p : Int32) (b : Int32) : pX7_wall [.ref 0, .int p, .int b] τ := by
  rw [pX7_wall_e]
  obtain ⟨a1, a2, a3, a4, a5, b1, b2, b3, b4, b5, b6, b7⟩ := PXh h
  exact ⟨b1, b2⟩
theorem pX6_isWall_h {G N : Nat} {σ τ : xS} (h : RRn G N σ τ) (p : Int32) : pX6_isWall [.ref 0, .int p] σ := by
  rw [pX6_isWall_e]
  exact trivial
theorem pX7_isWall_h {G N : Nat} {σ τ : xS} (h : RRn G N σ τ) (p : Int32) : pX7_isWall [.ref 0, .int p] τ := by
  rw [pX7_isWall_e]
  exact trivial
theorem pX6_streets_h {G N : Nat} {σ τ : xS} (h : RRn G N σ τ) (s : Int32) : pX6_streets [.ref 0, .int s] σ := by
  rw [pX6_streets_e]
  obtain ⟨a1, a2, a3, a4, a5, b1, b2, b3, b4, b5, b6, b7⟩ := PXh h
  exact ⟨a1, a2, a3, a4⟩
theorem pX7_streets_h {G N : Nat} {σ τ : xS} (h : RRn G N σ τ) (s : Int32) : pX7_streets [.ref 0, .int s] τ := by
  rw [pX7_streets_e]
  obtain ⟨a1, a2, a3, a4, a5, b1, b2, b3, b4, b5, b6, b7⟩ := PXh h
  exact ⟨(pre_str h s), (fun s hs => (b7 s hs).2)⟩
theorem pX6_fault_h {G N : Nat} {σ τ : xS} (h : RRn G N σ τ)  : pX6_fault [.ref 0] σ := by
  rw [pX6_fault_e]
  exact trivial
theorem pX7_fault_h {G N : Nat} {σ τ : xS} (h : RRn G N σ τ)  : pX7_fault [.ref 0] τ := by
  rw [pX7_fault_e]
  exact trivial
theorem pX6_at_h {G N : Nat} {σ τ : xS} (h : RRn G N σ τ) (n : Int32) (x : Int32) (y : Int32) : pX6_at [.ref 0, .int n, .int x, .int y] σ := by
  rw [pX6_at_e]
  obtain ⟨a1, a2, a3, a4, a5, b1, b2, b3, b4, b5, b6, b7⟩ := PXh h
  exact ⟨a1, a2, a4⟩
theorem pX7_at_h {G N : Nat} {σ τ : xS} (h : RRn G N σ τ) (n : Int32) (x : Int32) (y : Int32) : pX7_at [.ref 0, .int n, .int x, .int y] τ := by
  rw [pX7_at_e]
  obtain ⟨a1, a2, a3, a4, a5, b1, b2, b3, b4, b5, b6, b7⟩ := PXh h
  exact ⟨b1, b2, b5⟩
theorem pX6_have_h {G N : Nat} {σ τ : xS} (h : RRn G N σ τ) (n : Int32) (g : Int32) : pX6_have [.ref 0, .int n, .int g] σ := by
  rw [pX6_have_e]
  obtain ⟨a1, a2, a3, a4, a5, b1, b2, b3, b4, b5, b6, b7⟩ := PXh h
  exact ⟨a1, a2, a4⟩
theorem pX7_have_h {G N : Nat} {σ τ : xS} (h : RRn G N σ τ) (n : Int32) (g : Int32) : pX7_have [.ref 0, .int n, .int g] τ := by
  rw [pX7_have_e]
  obtain ⟨a1, a2, a3, a4, a5, b1, b2, b3, b4, b5, b6, b7⟩ := PXh h
  exact ⟨b1, b2, b5⟩
theorem pX6_survives_h {G N : Nat} {σ τ : xS} (h : RRn G N σ τ) (n : Int32) : pX6_survives [.ref 0, .int n] σ := by
  rw [pX6_survives_e]
  obtain ⟨a1, a2, a3, a4, a5, b1, b2, b3, b4, b5, b6, b7⟩ := PXh h
  exact ⟨a1, a2, a4⟩
theorem pX7_survives_h {G N : Nat} {σ τ : xS} (h : RRn G N σ τ) (n : Int32) : pX7_survives [.ref 0, .int n] τ := by
  rw [pX7_survives_e]
  obtain ⟨a1, a2, a3, a4, a5, b1, b2, b3, b4, b5, b6, b7⟩ := PXh h
  exact ⟨b1, b2, b5⟩
theorem pX6_lost_h {G N : Nat} {σ τ : xS} (h : RRn G N σ τ) (g : Int32) : pX6_lost [.ref 0, .int g] σ := by
  rw [pX6_lost_e]
  obtain ⟨a1, a2, a3, a4, a5, b1, b2, b3, b4, b5, b6, b7⟩ := PXh h
  exact ⟨a1, a2, a4⟩
theorem pX7_lost_h {G N : Nat} {σ τ : xS} (h : RRn G N σ τ) (g : Int32) : pX7_lost [.ref 0, .int g] τ := by
  rw [pX7_lost_e]
  obtain ⟨a1, a2, a3, a4, a5, b1, b2, b3, b4, b5, b6, b7⟩ := PXh h
  exact ⟨b1, b2, b5⟩
theorem pX6_comes_h {G N : Nat} {σ τ : xS} (h : RRn G N σ τ) (g : Int32) (x : Int32) : pX6_comes [.ref 0, .int g, .int x] σ := by
  rw [pX6_comes_e]
  obtain ⟨a1, a2, a3, a4, a5, b1, b2, b3, b4, b5, b6, b7⟩ := PXh h
  exact ⟨a1, a2, a4⟩
theorem pX7_comes_h {G N : Nat} {σ τ : xS} (h : RRn G N σ τ) (g : Int32) (x : Int32) : pX7_comes [.ref 0, .int g, .int x] τ := by
  rw [pX7_comes_e]
  obtain ⟨a1, a2, a3, a4, a5, b1, b2, b3, b4, b5, b6, b7⟩ := PXh h
  exact ⟨b1, b2, b5⟩
theorem pX6_meet_h {G N : Nat} {σ τ : xS} (h : RRn G N σ τ) (x : Int32) (y : Int32) : pX6_meet [.ref 0, .int x, .int y] σ := by
  rw [pX6_meet_e]
  obtain ⟨a1, a2, a3, a4, a5, b1, b2, b3, b4, b5, b6, b7⟩ := PXh h
  exact ⟨a1, a2, a4⟩
theorem pX7_meet_h {G N : Nat} {σ τ : xS} (h : RRn G N σ τ) (x : Int32) (y : Int32) : pX7_meet [.ref 0, .int x, .int y] τ := by
  rw [pX7_meet_e]
  obtain ⟨a1, a2, a3, a4, a5, b1, b2, b3, b4, b5, b6, b7⟩ := PXh h
  exact ⟨b1, b2, b5⟩
theorem pX6_meetings_h {G N : Nat} {σ τ : xS} (h : RRn G N σ τ) (n : Int32) : pX6_meetings [.ref 0, .int n] σ := by
  rw [pX6_meetings_e]
  obtain ⟨a1, a2, a3, a4, a5, b1, b2, b3, b4, b5, b6, b7⟩ := PXh h
  exact ⟨a1, a2, a4⟩
theorem pX7_meetings_h {G N : Nat} {σ τ : xS} (h : RRn G N σ τ) (n : Int32) : pX7_meetings [.ref 0, .int n] τ := by
  rw [pX7_meetings_e]
  obtain ⟨a1, a2, a3, a4, a5, b1, b2, b3, b4, b5, b6, b7⟩ := PXh h
  exact ⟨b1, b2, b5⟩
theorem pX6_ring_h {G N : Nat} {σ τ : xS} (h : RRn G N σ τ) (x : Int32) : pX6_ring [.ref 0, .int x] σ := by
  rw [pX6_ring_e]
  obtain ⟨a1, a2, a3, a4, a5, b1, b2, b3, b4, b5, b6, b7⟩ := PXh h
  exact ⟨a1, a2, a4⟩
theorem pX7_ring_h {G N : Nat} {σ τ : xS} (h : RRn G N σ τ) (x : Int32) : pX7_ring [.ref 0, .int x] τ := by
  rw [pX7_ring_e]
  obtain ⟨a1, a2, a3, a4, a5, b1, b2, b3, b4, b5, b6, b7⟩ := PXh h
  exact ⟨b1, b2, b5⟩
theorem pX6_alone_h {G N : Nat} {σ τ : xS} (h : RRn G N σ τ) (n : Int32) (x : Int32) (y : Int32) : pX6_alone [.ref 0, .int n, .int x, .int y] σ := by
  rw [pX6_alone_e]
  obtain ⟨a1, a2, a3, a4, a5, b1, b2, b3, b4, b5, b6, b7⟩ := PXh h
  exact ⟨a1, a2, a4⟩
theorem pX7_alone_h {G N : Nat} {σ τ : xS} (h : RRn G N σ τ) (n : Int32) (x : Int32) (y : Int32) : pX7_alone [.ref 0, .int n, .int x, .int y] τ := by
  rw [pX7_alone_e]
  obtain ⟨a1, a2, a3, a4, a5, b1, b2, b3, b4, b5, b6, b7⟩ := PXh h
  exact ⟨b2, (pre_alo h x)⟩
theorem pX6_alike_h {G N : Nat} {σ τ : xS} (h : RRn G N σ τ)  : pX6_alike [.ref 0] σ := by
  rw [pX6_alike_e]
  obtain ⟨a1, a2, a3, a4, a5, b1, b2, b3, b4, b5, b6, b7⟩ := PXh h
  exact ⟨a1, a2, a4⟩
theorem pX7_alike_h {G N : Nat} {σ τ : xS} (h : RRn G N σ τ)  : pX7_alike [.ref 0] τ := by
  rw [pX7_alike_e]
  obtain ⟨a1, a2, a3, a4, a5, b1, b2, b3, b4, b5, b6, b7⟩ := PXh h
  exact ⟨b1, b2, b5⟩
theorem pX6_hire_h {G N : Nat} {σ τ : xS} (h : RRn G N σ τ) (g : Int32) (x : Int32) : pX6_hire [.ref 0, .int g, .int x] σ := by
  rw [pX6_hire_e]
  obtain ⟨a1, a2, a3, a4, a5, b1, b2, b3, b4, b5, b6, b7⟩ := PXh h
  exact ⟨a1, a2, a4⟩
theorem pX7_hire_h {G N : Nat} {σ τ : xS} (h : RRn G N σ τ) (g : Int32) (x : Int32) : pX7_hire [.ref 0, .int g, .int x] τ := by
  rw [pX7_hire_e]
  obtain ⟨a1, a2, a3, a4, a5, b1, b2, b3, b4, b5, b6, b7⟩ := PXh h
  exact ⟨b1, b2, (pre_hir rfl h g)⟩
theorem pX6_fit_h {G N : Nat} {σ τ : xS} (h : RRn G N σ τ) (s : Int32) (n : Int32) : pX6_fit [.ref 0, .int s, .int n] σ := by
  rw [pX6_fit_e]
  obtain ⟨a1, a2, a3, a4, a5, b1, b2, b3, b4, b5, b6, b7⟩ := PXh h
  exact ⟨a1, a2, a4⟩
theorem pX7_fit_h {G N : Nat} {σ τ : xS} (h : RRn G N σ τ) (s : Int32) (n : Int32) : pX7_fit [.ref 0, .int s, .int n] τ := by
  rw [pX7_fit_e]
  obtain ⟨a1, a2, a3, a4, a5, b1, b2, b3, b4, b5, b6, b7⟩ := PXh h
  exact ⟨b1, b2, b5⟩
theorem pX6_began_h {G N : Nat} {σ τ : xS} (h : RRn G N σ τ) (s : Int32) (n : Int32) (x : Int32) : pX6_began [.ref 0, .int s, .int n, .int x] σ := by
  rw [pX6_began_e]
  obtain ⟨a1, a2, a3, a4, a5, b1, b2, b3, b4, b5, b6, b7⟩ := PXh h
  exact ⟨a1, a2, a4⟩
theorem pX7_began_h {G N : Nat} {σ τ : xS} (h : RRn G N σ τ) (s : Int32) (n : Int32) (x : Int32) : pX7_began [.ref 0, .int s, .int n, .int x] τ := by
  rw [pX7_began_e]
  obtain ⟨a1, a2, a3, a4, a5, b1, b2, b3, b4, b5, b6, b7⟩ := PXh h
  exact ⟨b1, b2, b3, b4, (pre_beg h x)⟩
theorem pX6_thief_h {G N : Nat} {σ τ : xS} (h : RRn G N σ τ) (g : Int32) (n : Int32) : pX6_thief [.ref 0, .int g, .int n] σ := by
  rw [pX6_thief_e]
  obtain ⟨a1, a2, a3, a4, a5, b1, b2, b3, b4, b5, b6, b7⟩ := PXh h
  exact ⟨a1, a2, a4⟩
theorem pX7_thief_h {G N : Nat} {σ τ : xS} (h : RRn G N σ τ) (g : Int32) (n : Int32) : pX7_thief [.ref 0, .int g, .int n] τ := by
  rw [pX7_thief_e]
  obtain ⟨a1, a2, a3, a4, a5, b1, b2, b3, b4, b5, b6, b7⟩ := PXh h
  exact ⟨b1, b2, b5⟩
theorem pX6_beat_h {G N : Nat} {σ τ : xS} (h : RRn G N σ τ) (n : Int32) : pX6_beat [.ref 0, .int n] σ := by
  rw [pX6_beat_e]
  obtain ⟨a1, a2, a3, a4, a5, b1, b2, b3, b4, b5, b6, b7⟩ := PXh h
  exact ⟨a1, a2⟩
theorem pX7_beat_h {G N : Nat} {σ τ : xS} (h : RRn G N σ τ) (n : Int32) : pX7_beat [.ref 0, .int n] τ := by
  rw [pX7_beat_e]
  obtain ⟨a1, a2, a3, a4, a5, b1, b2, b3, b4, b5, b6, b7⟩ := PXh h
  exact ⟨b1, b2, b6⟩
theorem pX6_strangers_h {G N : Nat} {σ τ : xS} (h : RRn G N σ τ) (n : Int32) : pX6_strangers [.ref 0, .int n] σ := by
  rw [pX6_strangers_e]
  obtain ⟨a1, a2, a3, a4, a5, b1, b2, b3, b4, b5, b6, b7⟩ := PXh h
  exact ⟨a1, a2⟩
theorem pX7_strangers_h {G N : Nat} {σ τ : xS} (h : RRn G N σ τ) (n : Int32) : pX7_strangers [.ref 0, .int n] τ := by
  rw [pX7_strangers_e]
  obtain ⟨a1, a2, a3, a4, a5, b1, b2, b3, b4, b5, b6, b7⟩ := PXh h
  exact ⟨b1, b2⟩
theorem pX6_goes_h {G N : Nat} {σ τ : xS} (h : RRn G N σ τ)  : pX6_goes [.ref 0] σ := by
  rw [pX6_goes_e]
  exact trivial
theorem pX7_goes_h {G N : Nat} {σ τ : xS} (h : RRn G N σ τ)  : pX7_goes [.ref 0] τ := by
  rw [pX7_goes_e]
  exact trivial
theorem pX6_teach_h {G N : Nat} {σ τ : xS} (h : RRn G N σ τ) (x : Int32) (g : Int32) : pX6_teach [.ref 0, .int x, .int g] σ := by
  rw [pX6_teach_e]
  exact trivial
theorem pX7_teach_h {G N : Nat} {σ τ : xS} (h : RRn G N σ τ) (x : Int32) (g : Int32) : pX7_teach [.ref 0, .int x, .int g] τ := by
  rw [pX7_teach_e]
  obtain ⟨a1, a2, a3, a4, a5, b1, b2, b3, b4, b5, b6, b7⟩ := PXh h
  exact b2
theorem pX6_seed_h {G N : Nat} {σ τ : xS} (h : RRn G N σ τ) (v : Int32) : pX6_seed [.ref 0, .int v] σ := by
  rw [pX6_seed_e]
  exact trivial
theorem pX7_seed_h {G N : Nat} {σ τ : xS} (h : RRn G N σ τ) (v : Int32) : pX7_seed [.ref 0, .int v] τ := by
  rw [pX7_seed_e]
  exact trivial
theorem pX6_act_h {G N : Nat} {σ τ : xS} (h : RRn G N σ τ) (x : Int32) (a : Int32) (y : Int32) : pX6_act [.ref 0, .int x, .int a, .int y] σ := by
  rw [pX6_act_e]
  exact trivial
theorem pX7_act_h {G N : Nat} {σ τ : xS} (h : RRn G N σ τ) (x : Int32) (a : Int32) (v : Int32) : pX7_act [.ref 0, .int x, .int a, .int v] τ := by
  rw [pX7_act_e]
  obtain ⟨a1, a2, a3, a4, a5, b1, b2, b3, b4, b5, b6, b7⟩ := PXh h
  exact b2
theorem pX6_trace_h {G N : Nat} {σ τ : xS} (h : RRn G N σ τ) (i : Int32) : pX6_trace [.ref 0, .int i] σ := by
  rw [pX6_trace_e]
  exact trivial
theorem pX7_trace_h {G N : Nat} {σ τ : xS} (h : RRn G N σ τ) (i : Int32) : pX7_trace [.ref 0, .int i] τ := by
  rw [pX7_trace_e]
  exact trivial
theorem pX6_image_h {G N : Nat} {σ τ : xS} (h : RRn G N σ τ)  : pX6_image [.ref 0] σ := by
  rw [pX6_image_e]
  obtain ⟨a1, a2, a3, a4, a5, b1, b2, b3, b4, b5, b6, b7⟩ := PXh h
  exact ⟨a1, a2, a4⟩
theorem pX7_image_h {G N : Nat} {σ τ : xS} (h : RRn G N σ τ)  : pX7_image [.ref 0] τ := by
  rw [pX7_image_e]
  exact trivial
theorem pX7_restore_h {G N : Nat} {σ τ : xS} (h : RRn G N σ τ)  : pX7_restore [.ref 0] τ := by
  rw [pX7_restore_e]
  exact trivial
theorem pX6_status_h {G N : Nat} {σ τ : xS} (h : RRn G N σ τ) (x : Int32) : pX6_status [.ref 0, .int x] σ := by
  rw [pX6_status_e]
  exact trivial
theorem pX7_status_h {G N : Nat} {σ τ : xS} (h : RRn G N σ τ) (x : Int32) : pX7_status [.ref 0, .int x] τ := by
  rw [pX7_status_e]
  exact trivial
/-- restore, where no image was taken -/
def pX6_restoreN (as : List Value) (σ : xS) : Prop := as = [.ref 0] ∧ σ.1 0 9 = 0
set_option maxHeartbeats 4000000 in
set_option maxRecDepth 100000 in
theorem mX6_restoreN : xMet WX yX6_restore cX6_restore 1 (some .int) 4 pX6_restoreN fX6_restore := by
  refine xMet_of (fld := xlk fldX6) (cal := xlk calX6_restore) (ks := xlk []) (gs := xlk []) (ro := fun _ => none) 0 (by decide) WX_nd rfl fldX6_ok xKs_nil xGs_nil (Or.inr rfl) (xcal_cons (xCk_V mX6_refuse 6 (by decide) (by decide) (by decide) rfl (fun as σ h _ => rX6_refuse as σ h) w_X6_66 ⟨by decide, by decide, by decide +kernel⟩) (xcal_cons (xCk_V mX4_becomeAs 4 (by decide) (by decide) (by decide) rfl (fun as σ h _ => rX4_becomeAs as σ h) w_X6_200 ⟨by decide, by decide, by decide +kernel⟩) (xcal_cons (xCk_V mX6_emptyShelvesOfTheGone 6 (by decide) (by decide) (by decide) rfl (fun as σ h _ => rX6_emptyShelvesOfTheGone as σ h) w_X6_267 ⟨by decide, by decide, by decide +kernel⟩) xcal_nil))) ?_ ?_
  · rintro av σ ⟨rfl, hpre⟩
    exact Nat.le_of_ble_eq_true rfl
  rintro av σ ⟨rfl, hp1⟩ Rt hR
  have hR2 := hR2_g (Rt := Rt) (F := resX σ) (fun r s' => by rw [hR, fX6_restore_e])
  refine xgo0 20 ?_
  simp (config := {maxSteps := 4000000, implicitDefEqProofs := false}) only [xwp_2, xwp_0, xwp_1, xws_s, xdd_o, xld_0, xld_s, xs1_0, xs1_1, xs1_s, xs2_0, xs2_1, xs2_s, xlg_n, xlg_i, xlg_r, xlg_z, xlg_l, xf4_0, xf4_1, xf4_2, xf4_3, xgo_e, xcmp_eq, xcmp_ne, xcmp_lt, xcmp_ge, xcmp_gt, xcmp_le, xfg_0, xfg_1, xfg_2, xfg_3, xfg_4, xpop_0, xpop_s, xsw_n, xsw_c, xtb_n, xtb_c, xenp_n, xenp_i, xenp_r, xenp_z, xenp_l, xrep_0, xrep_s, Nat.reduceSub, true_and, and_true, cat_i, cat_r, Nat.reduceAdd, Nat.reduceLT, Nat.reduceLeDiff, Nat.reduceEqDiff, xnc, Int.reduceAdd, Int.reduceSub, Int.reduceNeg, Int.reduceLE, Int.reduceLT, Int.reduceToNat, ↓reduceIte, List.length_cons, List.length_nil, xlc0, xlc1, ite_10, i10, i01, i0_2, i0_3, i0_4, i0_6, i0_7, i0_8, i0_49, i0_10, or_true, true_or, or_false, false_or, not_false_eq_true, not_true_eq_false, xnt, xI_g, eq_self, xI_2, xJ_1, false_and, and_false, obT_t, obS_t, ob6_t, ob2_t, ob0_t, kT1_t, kT2_t, kT3_t, kT4_t, lT1, lT2, rT6, rT7, rT8, rT9, rT1i, rT2i, rS2, kSe_t, lSe, r0_0, r0_1, r0_2, r0_3, r0_4, r0_5, r0_6, r0_7, r0_8, r0_9, r1_i, r2_4, r2_5, r4_4, a1_t, a3_t, a5_t, a6_t, a7_t, a8_t, l1, l3, l5, l6, l7, l8, T1, T2, T3, T4, nI8, nI6, nI160, nI20, nI401, nI49, ob5_t, ob1_t, vp_tn, tn_def, lgc, dX6_restore_0, st_aload_n, dX6_restore_1, st_getfield, fl_X6_53, dX6_restore_4, st_ifCond, dX6_restore_7, dX6_restore_8, st_bipush, dX6_restore_10, st_invokevirtual, dX6_restore_13, st_ireturn, dX6_restore_14, dX6_restore_15, fl_X6_18, dX6_restore_18, dX6_restore_19, fl_X6_25, dX6_restore_22, dX6_restore_25, dX6_restore_26, dX6_restore_29, dX6_restore_30, dX6_restore_33, fl_X6_213, dX6_restore_36, c_X6_restore_66, pX6_refuse_e, fX6_refuse_e, Option.toList_some, Option.toList_none, List.cons_append, List.nil_append, c_X6_restore_200, pX4_becomeAs_e, fX4_becomeAs_e, c_X6_restore_267, pX6_emptyShelvesOfTheGone_e, fX6_emptyShelvesOfTheGone_e, ofI_m6, esX_k, cpT_13, ne13, hp1]
  clear hR
  simp only [hR2, resX, noX]
  clear hR2
  grind (splits := 40)
def pX6_restoreW (as : List Value) (σ : xS) : Prop := pX6_restore as σ ∨ pX6_restoreN as σ
theorem mX6_restoreW : xMet WX yX6_restore cX6_restore 1 (some .int) 4 pX6_restoreW fX6_restore := fun l D ad ca av σ sz h => h.elim (fun h => mX6_restore l D ad ca av σ sz h) (fun h => mX6_restoreN l D ad ca av σ sz h)
theorem rX6_restoreW : ∀ as σ, pX6_restoreW as σ → ∃ K as', as = .ref K :: as' ∧ xob WX K 6 := by
  rintro as σ (h | ⟨rfl, -⟩)
  · exact rX6_restore as σ h
  · exact ⟨_, _, rfl, ob6⟩
theorem pX6_restoreW_h {G N : Nat} {σ τ : xS} (h : RRn G N σ τ) : pX6_restoreW [.ref 0] σ := by
  rcases h.2.2.2.2.2.1 with ⟨h1, -⟩ | ⟨-, G', N', hA⟩
  · exact Or.inr ⟨rfl, h1⟩
  · refine Or.inl ?_
    rw [pX6_restore_e, hA.1.1.1.1, hA.1.1.1.2]
    exact ⟨nI_le (b := 6) hA.1.2.1.2.1 (by omega), nI_le (b := 8) hA.1.2.1.1 (by omega)⟩
