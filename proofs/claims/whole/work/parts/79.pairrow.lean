/-! shelves and rows, side by side -/
theorem RRn_u {G N G' N' : Nat} {σ σ' τ τ' : xS} (h : RRn G N σ τ) (hT : TA 100 G' N' σ' τ'.1) (hS : ∀ s, s < 8 → SHr N' σ' τ' s) (hx : ∀ a b, a < 10 ∨ (300 ≤ a ∧ a < 400) → a ≠ 2 → a ≠ 3 → σ'.1 a b = σ.1 a b) (hx2 : σ'.2 300 0 = σ.2 300 0) (hm0 : ∀ c, c = 5 ∨ c = 48 ∨ c = 49 → τ'.1 0 c = τ.1 0 c) (hm1 : ∀ a c, a = 6 ∨ a = 29 ∨ a = 39 ∨ a = 47 → τ'.1 a c = τ.1 a c) : RRn G' N' σ' τ' := by
  obtain ⟨h1, h2, h3, h4, ⟨h5, h6, h7⟩, h8, h9⟩ := h
  refine ⟨hT, hS, fun k q1 q2 => ?_, ?_, ⟨?_, ?_, fun i hi hl => ?_⟩, IMr_f (hx _ _ (by omega) (by omega) (by omega)) (fun a b q1 q2 => hx a b (by omega) (by omega) (by omega)) hx2 (hm0 49 (by omega)) (fun c => hm1 39 c (by omega)) h8, fun j hj => ?_⟩
  · rw [hx _ _ (by omega) (by omega) (by omega), hm1 6 k (by omega)]; exact h3 k q1 q2
  · rw [hx _ _ (by omega) (by omega) (by omega), hm0 5 (by omega)]; exact h4
  · rw [hx _ _ (by omega) (by omega) (by omega), hm0 48 (by omega)]; exact h5
  · rw [hm0 48 (by omega)]; exact h6
  · rw [hm0 48 (by omega)] at hl
    rw [hx _ _ (by omega) (by omega) (by omega), hm1 47 i (by omega)]; exact h7 i hi hl
  · rw [hm1 29 j (by omega)]; exact h9 j hj
theorem esX_sh {σ : xS} : ∀ i, i ≤ 8 → ∀ s, s < 8 → ∀ b, (esX i σ).1 (10 + s) b = if s < i ∧ ((0 ≤ σ.1 (10 + s) 0 ∧ σ.1 (10 + s) 0 < 100) ∧ ¬ (0 ≤ σ.1 (10 + s) 0 ∧ σ.1 (10 + s) 0 < σ.1 100 2)) then (if b = 0 then -1 else if b = 1 then 0 else σ.1 (10 + s) b) else σ.1 (10 + s) b
  | 0, _, s, _, b => by rw [if_neg (fun q => absurd q.1 (by omega))]; rfl
  | i + 1, hi, s, hs, b => by
    have ih := esX_sh (σ := σ) i (by omega)
    have e0 : (esX i σ).1 (10 + i) 0 = σ.1 (10 + i) 0 := by rw [ih i (by omega) 0, if_neg (fun q => absurd q.1 (by omega))]
    have es : esX (i + 1) σ = if (0 ≤ (esX i σ).1 (10 + i) 0 ∧ (esX i σ).1 (10 + i) 0 < 100) ∧ ¬ (0 ≤ (esX i σ).1 (10 + i) 0 ∧ (esX i σ).1 (10 + i) 0 < σ.1 100 2) then xI (xI (esX i σ) (10 + i) 0 (-1)) (10 + i) 1 0 else esX i σ := rfl
    rw [es, e0]
    by_cases e : s = i
    · subst e
      by_cases hc : (0 ≤ σ.1 (10 + s) 0 ∧ σ.1 (10 + s) 0 < 100) ∧ ¬ (0 ≤ σ.1 (10 + s) 0 ∧ σ.1 (10 + s) 0 < σ.1 100 2)
      · rw [if_pos hc, if_pos ⟨by omega, hc⟩]
        by_cases b1 : b = 1
        · subst b1
          rw [xI_s, if_neg (by omega), if_pos rfl]
        · rw [xI_n (by omega)]
          by_cases b0 : b = 0
          · subst b0
            rw [xI_s, if_pos rfl]
          · rw [xI_n (by omega), if_neg b0, if_neg b1, ih s (by omega) b, if_neg (fun q => absurd q.1 (by omega))]
      · rw [if_neg hc, if_neg (fun q => hc q.2), ih s (by omega) b, if_neg (fun q => hc q.2)]
    · have e2 : ∀ X : xS, (xI (xI X (10 + i) 0 (-1)) (10 + i) 1 0).1 (10 + s) b = X.1 (10 + s) b := fun X => by rw [xI_n (by omega), xI_n (by omega)]
      have e3 : (if (0 ≤ σ.1 (10 + i) 0 ∧ σ.1 (10 + i) 0 < 100) ∧ ¬ (0 ≤ σ.1 (10 + i) 0 ∧ σ.1 (10 + i) 0 < σ.1 100 2) then xI (xI (esX i σ) (10 + i) 0 (-1)) (10 + i) 1 0 else esX i σ).1 (10 + s) b = (esX i σ).1 (10 + s) b := by
        split
        · exact e2 _
        · rfl
      rw [e3, ih s (by omega) b]
      by_cases hsi : s < i
      · by_cases hc : (0 ≤ σ.1 (10 + s) 0 ∧ σ.1 (10 + s) 0 < 100) ∧ ¬ (0 ≤ σ.1 (10 + s) 0 ∧ σ.1 (10 + s) 0 < σ.1 100 2)
        · have p1 : s < i ∧ ((0 ≤ σ.1 (10 + s) 0 ∧ σ.1 (10 + s) 0 < 100) ∧ ¬ (0 ≤ σ.1 (10 + s) 0 ∧ σ.1 (10 + s) 0 < σ.1 100 2)) := ⟨hsi, hc⟩
          have p2 : s < i + 1 ∧ ((0 ≤ σ.1 (10 + s) 0 ∧ σ.1 (10 + s) 0 < 100) ∧ ¬ (0 ≤ σ.1 (10 + s) 0 ∧ σ.1 (10 + s) 0 < σ.1 100 2)) := ⟨by omega, hc⟩
          rw [if_pos p1, if_pos p2]
        · rw [if_neg (fun q => hc q.2), if_neg (fun q => hc q.2)]
      · rw [if_neg (fun q => hsi q.1), if_neg (fun q => absurd q.1 (by omega))]
theorem geM_sh {τ : xS} : ∀ i, i ≤ 8 → (∀ s, (geM i τ).1 23 s = if s < i ∧ (τ.1 23 s = 2 ∧ τ.1 26 s = τ.1 0 1) then 0 else τ.1 23 s) ∧ (∀ a s, a ≠ 23 → (geM i τ).1 a s = τ.1 a s) ∧ (geM i τ).2 = τ.2
  | 0, _ => ⟨fun s => by rw [if_neg (fun q => absurd q.1 (by omega))]; rfl, fun _ _ _ => rfl, rfl⟩
  | i + 1, hi => by
    obtain ⟨ih1, ih2, ih3⟩ := geM_sh (τ := τ) i (by omega)
    have e23 : (geM i τ).1 23 i = τ.1 23 i := by rw [ih1, if_neg (fun q => absurd q.1 (by omega))]
    have e26 := ih2 26 i (by omega)
    rw [geM_s, e23, e26]
    by_cases hc : τ.1 23 i = 2 ∧ τ.1 26 i = τ.1 0 1
    · rw [if_pos hc]
      refine ⟨fun s => ?_, fun a s q => by rw [xI_n (by omega)]; exact ih2 a s q, ih3⟩
      by_cases e : s = i
      · rw [e, xI_s, if_pos ⟨by omega, hc⟩]
      · rw [xI_n (by omega), ih1]
        by_cases hsi : s < i ∧ (τ.1 23 s = 2 ∧ τ.1 26 s = τ.1 0 1)
        · rw [if_pos hsi, if_pos ⟨by omega, hsi.2⟩]
        · rw [if_neg hsi, if_neg (fun q => hsi ⟨by omega, q.2⟩)]
    · rw [if_neg hc]
      refine ⟨fun s => ?_, ih2, ih3⟩
      rw [ih1]
      by_cases e : s = i
      · rw [e, if_neg (fun q => absurd q.1 (by omega)), if_neg (fun q => hc q.2)]
      · by_cases hsi : s < i ∧ (τ.1 23 s = 2 ∧ τ.1 26 s = τ.1 0 1)
        · rw [if_pos hsi, if_pos ⟨by omega, hsi.2⟩]
        · rw [if_neg hsi, if_neg (fun q => hsi ⟨by omega, q.2⟩)]
theorem rsM_sh {τ : xS} : ∀ i, i ≤ 8 → (∀ s, (rsM i τ).1 23 s = if s < i ∧ (τ.1 23 s = 2 ∧ ¬ τ.1 26 s < τ.1 0 1) then 0 else τ.1 23 s) ∧ (∀ a s, a ≠ 23 → (rsM i τ).1 a s = τ.1 a s) ∧ (rsM i τ).2 = τ.2
  | 0, _ => ⟨fun s => by rw [if_neg (fun q => absurd q.1 (by omega))]; rfl, fun _ _ _ => rfl, rfl⟩
  | i + 1, hi => by
    obtain ⟨ih1, ih2, ih3⟩ := rsM_sh (τ := τ) i (by omega)
    have e23 : (rsM i τ).1 23 i = τ.1 23 i := by rw [ih1, if_neg (fun q => absurd q.1 (by omega))]
    have e26 := ih2 26 i (by omega)
    rw [rsM_s, e23, e26]
    by_cases hc : τ.1 23 i = 2 ∧ ¬ τ.1 26 i < τ.1 0 1
    · rw [if_pos hc]
      refine ⟨fun s => ?_, fun a s q => by rw [xI_n (by omega)]; exact ih2 a s q, ih3⟩
      by_cases e : s = i
      · rw [e, xI_s, if_pos ⟨by omega, hc⟩]
      · rw [xI_n (by omega), ih1]
        by_cases hsi : s < i ∧ (τ.1 23 s = 2 ∧ ¬ τ.1 26 s < τ.1 0 1)
        · rw [if_pos hsi, if_pos ⟨by omega, hsi.2⟩]
        · rw [if_neg hsi, if_neg (fun q => hsi ⟨by omega, q.2⟩)]
    · rw [if_neg hc]
      refine ⟨fun s => ?_, ih2, ih3⟩
      rw [ih1]
      by_cases e : s = i
      · rw [e, if_neg (fun q => absurd q.1 (by omega)), if_neg (fun q => hc q.2)]
      · by_cases hsi : s < i ∧ (τ.1 23 s = 2 ∧ ¬ τ.1 26 s < τ.1 0 1)
        · rw [if_pos hsi, if_pos ⟨by omega, hsi.2⟩]
        · rw [if_neg hsi, if_neg (fun q => hsi ⟨by omega, q.2⟩)]
/-- shelves behind those who went: c says who is gone -/
theorem SHr_es {N N' s : Nat} {σ τ σ' τ' : xS} (hN : N ≤ 6) (hN' : N' ≤ 6) (h : SHr N σ τ s) (hs : s < 8) (hx' : ∀ b, σ'.1 (10 + s) b = if ((0 ≤ σ.1 (10 + s) 0 ∧ σ.1 (10 + s) 0 < 100) ∧ ¬ (0 ≤ σ.1 (10 + s) 0 ∧ σ.1 (10 + s) 0 < nI N')) then (if b = 0 then -1 else if b = 1 then 0 else σ.1 (10 + s) b) else σ.1 (10 + s) b) (hx2 : ∀ i, σ'.2 (20 + s) i = σ.2 (20 + s) i) (h25 : τ'.1 25 s = τ.1 25 s) (h24 : τ'.1 24 s = τ.1 24 s) (h26 : τ'.1 26 s = τ.1 26 s) (h27 : ∀ c, τ'.2 27 c = τ.2 27 c) (h23n : ¬ τ.1 23 s = 2 → τ'.1 23 s = τ.1 23 s) (h23 : ∀ w, w < N → τ.1 23 s = 2 → τ.1 26 s = nI w → τ'.1 23 s = if w < N' then 2 else 0) : SHr N' σ' τ' s := by
  obtain ⟨⟨a1, a2⟩, a3, h⟩ := h
  refine ⟨⟨by rw [h25]; exact a1, by rw [h25]; exact a2⟩, ?_, ?_⟩
  · obtain ⟨a31, a32⟩ := a3
    rw [hx']
    split
    · rw [if_neg (show ¬ (1 : Nat) = 0 by omega), if_pos (rfl : (1 : Nat) = 1)]
      exact ⟨by decide, Or.inr rfl⟩
    · refine ⟨a31, ?_⟩
      rcases a32 with q | q
      · exact Or.inl (by rw [h23n (by rw [q]; decide)]; exact q)
      · exact Or.inr q
  · rcases h with ⟨b1, b2⟩ | ⟨b1, ⟨o, o4, b2, b3⟩, b4, b5⟩ | ⟨b1, w, hw, b2, b3⟩
    · refine Or.inl ⟨by rw [h23n (by rw [b1]; decide)]; exact b1, ?_⟩
      rw [hx', if_neg (fun q => by have := q.1.1; rw [b2] at this; exact absurd this (by decide))]
      exact b2
    · have hn : ¬ ((0 ≤ σ.1 (10 + s) 0 ∧ σ.1 (10 + s) 0 < 100) ∧ ¬ (0 ≤ σ.1 (10 + s) 0 ∧ σ.1 (10 + s) 0 < nI N')) := fun q => by
        have := q.1.2
        rw [b3] at this
        have := (nI_ltI (a := 100 + o) (b := 100) (by omega) (by omega)).mp this
        omega
      refine Or.inr (Or.inl ⟨by rw [h23n (by rw [b1]; decide)]; exact b1, ⟨o, o4, by rw [h24]; exact b2, by rw [hx', if_neg hn]; exact b3⟩, by rw [hx', if_neg hn, h25]; exact b4, fun i hi => ?_⟩)
      rw [h25] at hi
      rw [hx2, h27]
      exact b5 i hi
    · have h0 : 0 ≤ nI w := nI_pos' (by omega)
      have h1 : nI w < 100 := (nI_ltI (b := 100) (by omega) (by omega)).mpr (by omega)
      have hlt : nI w < nI N' ↔ w < N' := nI_ltI (by omega) (by omega)
      have h23 := h23 w hw b1 b2
      by_cases hwN : w < N'
      · rw [if_pos hwN] at h23
        refine Or.inr (Or.inr ⟨h23, w, hwN, by rw [h26]; exact b2, ?_⟩)
        rw [hx', if_neg (fun q => q.2 ⟨by rw [b3]; exact h0, by rw [b3]; exact hlt.mpr hwN⟩)]
        exact b3
      · rw [if_neg hwN] at h23
        refine Or.inl ⟨h23, ?_⟩
        rw [hx', if_pos ⟨⟨by rw [b3]; exact h0, by rw [b3]; exact h1⟩, fun q => hwN (hlt.mp (by rw [← b3]; exact q.2))⟩, if_pos rfl]
theorem esX_8 {S : xS} {N' s : Nat} (hc : S.1 100 2 = nI N') (hs : s < 8) (b : Nat) : (esX 8 S).1 (10 + s) b = if ((0 ≤ S.1 (10 + s) 0 ∧ S.1 (10 + s) 0 < 100) ∧ ¬ (0 ≤ S.1 (10 + s) 0 ∧ S.1 (10 + s) 0 < nI N')) then (if b = 0 then -1 else if b = 1 then 0 else S.1 (10 + s) b) else S.1 (10 + s) b := by
  rw [esX_sh 8 (by omega) s hs b, hc]
  by_cases q : (0 ≤ S.1 (10 + s) 0 ∧ S.1 (10 + s) 0 < 100) ∧ ¬ (0 ≤ S.1 (10 + s) 0 ∧ S.1 (10 + s) 0 < nI N')
  · rw [if_pos q, if_pos ⟨hs, q⟩]
  · rw [if_neg q, if_neg (fun z => q z.2)]
theorem ok_goes {G N : Nat} {σ τ : xS} (h : RRn G N σ τ) : OKp (goeX σ) (goeM τ) := by
  obtain ⟨⟨hG, hN⟩, ⟨c1, c2⟩, ⟨c3, c4⟩⟩ := RRn_G h
  unfold goeX goeM
  rw [c3, c4]
  by_cases h0 : N = 0
  · have e : nI N = 0 := by rw [h0]; rfl
    rw [if_pos e, if_pos e]
    exact no_p rk6 h
  · have e : ¬ nI N = 0 := nI_ne0 (by omega) (by omega)
    rw [if_neg e, if_neg e]
    obtain ⟨M, rfl⟩ : ∃ M, N = M + 1 := ⟨N - 1, by omega⟩
    have eM : nI (M + 1) - 1 = nI M := by rw [← nI_1, Int32.add_sub_cancel]
    rw [eM]
    obtain ⟨⟨hT, hW⟩, hC, hh⟩ := h.1
    have x1 : ∀ a b, a ≠ 100 ∨ b ≠ 2 → (xI σ 100 2 (nI M)).1 a b = σ.1 a b := fun a b q => xI_n (by omega)
    have x12 : (xI σ 100 2 (nI M)).1 100 2 = nI M := xI_s
    have m1 : ∀ a c, a ≠ 0 ∨ c ≠ 1 → (xI τ 0 1 (nI M)).1 a c = τ.1 a c := fun a c q => xI_n (by omega)
    have m12 : (xI τ 0 1 (nI M)).1 0 1 = nI M := xI_s
    have hS : ∀ s, s < 8 → SHr (M + 1) (xI σ 100 2 (nI M)) (xI τ 0 1 (nI M)) s := fun s hs => by
      have := h.2.1 s hs
      unfold SHr at *
      simp only [x1 (10 + s) _ (Or.inl (by omega)), m1 23 _ (Or.inl (by omega)), m1 24 _ (Or.inl (by omega)), m1 25 _ (Or.inl (by omega)), m1 26 _ (Or.inl (by omega))]
      exact this
    have x2' : (xI σ 100 2 (nI M)).2 = σ.2 := rfl
    have m2' : (xI τ 0 1 (nI M)).2 = τ.2 := rfl
    generalize xI σ 100 2 (nI M) = S at *
    generalize xI τ 0 1 (nI M) = U at *
    obtain ⟨g1, g2, g3⟩ := geM_sh (τ := U) 8 (Nat.le_refl _)
    have eo : ∀ a b, a < 10 ∨ 18 ≤ a → (esX 8 S).1 a b = S.1 a b := fun a b q => esX_o q (Nat.le_refl _)
    have eo2 : (esX 8 S).2 = S.2 := esX_2
    have e8 := fun s (hs : s < 8) b => esX_8 x12 hs b
    generalize esX 8 S = S2 at *
    generalize geM 8 U = U2 at *
    refine ⟨rfl, G, M, RRn_u h ⟨⟨?_, ?_⟩, ⟨?_, ?_, ?_⟩, ?_⟩ (fun s hs => SHr_es (N := M + 1) (by omega) (by omega) (hS s hs) hs (fun b => e8 s hs b) (fun i => by show S2.2 _ _ = _; rw [eo2]) (g2 25 s (by omega)) (g2 24 s (by omega)) (g2 26 s (by omega)) (fun c => by show U2.2 27 c = _; rw [g3]) (fun q => ?_) (fun w hw q1 q2 => ?_)) (fun a b q q2 q3 => ?_) ?_ (fun c q => ?_) (fun a c q => ?_)⟩
    · have t1 : TW 100 G M S τ.1 := by
        obtain ⟨⟨b1, b2⟩, hg, hw, hl⟩ := hT
        refine ⟨⟨by rw [x1 _ _ (by omega)]; exact b1, x12⟩, fun g hg' => ?_, fun w hw' => ?_, by rw [x2']; exact hl⟩
        · obtain ⟨f1, f2, f3⟩ := hg g hg'
          exact ⟨by rw [x1 _ _ (by omega)]; exact f1, by rw [x1 _ _ (by omega)]; exact f2, fun j hj => by rw [x1 _ _ (by omega)]; exact f3 j hj⟩
        · obtain ⟨k0, k1, k2, k3, k4, k5, k6⟩ := hw w (by omega)
          refine ⟨?_, ?_, ?_, ?_, ?_, ?_, ?_⟩ <;> rw [x1 _ _ (by omega)] <;> assumption
      exact TW_v (fun a c q1 q2 => by show U2.1 a c = _; rw [g2 a c (by omega), m1 _ _ (by omega)]) (fun a w q1 q2 q3 => by show U2.1 a w = _; rw [g2 a w (by omega), m1 _ _ (by omega)]) (TW_c (σ := S) hG (by omega) (fun a b q1 q2 _ => eo a b (by omega)) (by show S2.2 100 0 = _; rw [eo2]) t1)
    · have gm : ∀ a c, a ≠ 23 → (a ≠ 0 ∨ c ≠ 1) → U2.1 a c = τ.1 a c := fun a c q q2 => by rw [g2 a c q, m1 _ _ q2]
      obtain ⟨⟨d1, d2, d3, d4⟩, e1, e2, e3⟩ := hW
      exact ⟨⟨d1, by omega, by show U2.1 0 0 = _; rw [gm _ _ (by omega) (by omega)]; exact d3, by show U2.1 0 1 = _; rw [g2 0 1 (by omega)]; exact m12⟩, fun g hg => wfG_v (fun a c q1 q2 => gm a c (by omega) (by omega)) (e1 g hg), fun w hw => wfW_v (fun a q1 q2 => gm a w (by omega) (by omega)) (fun g => gm 8 g (by omega) (by omega)) (e2 w (by omega)), fun p hp => by show ∃ b, b < 2 ∧ U2.1 10 p = nI b; rw [gm 10 p (by omega) (by omega)]; exact e3 p hp⟩
    · show S2.1 100 3 = U2.1 0 2
      rw [eo _ _ (by omega), x1 _ _ (by omega), g2 _ _ (by omega), m1 _ _ (by omega)]; exact hC.1
    · show S2.1 100 4 = U2.1 0 3
      rw [eo _ _ (by omega), x1 _ _ (by omega), g2 _ _ (by omega), m1 _ _ (by omega)]; exact hC.2.1
    · show S2.1 100 5 = U2.1 0 4
      rw [eo _ _ (by omega), x1 _ _ (by omega), g2 _ _ (by omega), m1 _ _ (by omega)]; exact hC.2.2
    · show HB (S2.2 100 0)
      rw [eo2, x2']; exact hh
    · show U2.1 23 s = U.1 23 s
      rw [g1, if_neg (fun z => q z.2.1)]
    · show U2.1 23 s = _
      rw [g1, m12, q2]
      have he : nI w = nI M ↔ w = M := nI_eq (by omega) (by omega)
      by_cases hwM : w < M
      · rw [if_pos hwM, if_neg (fun z => by have := he.mp z.2.2; omega)]
        exact q1
      · rw [if_neg hwM, if_pos ⟨hs, q1, he.mpr (by omega)⟩]
    · show S2.1 a b = _
      rw [eo _ _ (by omega), x1 _ _ (by omega)]
    · show S2.2 300 0 = _
      rw [eo2, x2']
    · show U2.1 0 c = _
      rw [g2 _ _ (by omega), m1 _ _ (by omega)]
    · show U2.1 a c = _
      rw [g2 _ _ (by omega), m1 _ _ (by omega)]
