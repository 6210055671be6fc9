/-! calls that change the town, side by side -/
theorem RRn_t {G N G' N' : Nat} {σ σ' τ τ' : xS} (h : RRn G N σ τ) (hT : TA 100 G' N' σ' τ'.1) (hN : N ≤ N') (hx : ∀ a b, a < 100 ∨ (300 ≤ a ∧ a < 400) → a ≠ 2 → a ≠ 3 → σ'.1 a b = σ.1 a b) (hx2 : ∀ a b, a ≠ 100 → a ≠ 200 → a ≠ 7 → a ≠ 8 → a < 400 → σ'.2 a b = σ.2 a b) (hm0 : ∀ c, c = 5 ∨ c = 48 ∨ c = 49 → τ'.1 0 c = τ.1 0 c) (hm1 : ∀ a c, a = 6 ∨ (23 ≤ a ∧ a ≤ 26) ∨ a = 29 ∨ a = 39 ∨ a = 47 → τ'.1 a c = τ.1 a c) (hm2 : ∀ c, τ'.2 27 c = τ.2 27 c) : RRn G' N' σ' τ' := by
  obtain ⟨h1, h2, h3, h4, ⟨h5, h6, h7⟩, h8, h9⟩ := h
  refine ⟨hT, fun s hs => ?_, fun k q1 q2 => ?_, ?_, ⟨?_, ?_, fun i hi hl => ?_⟩, IMr_f (hx _ _ (by omega) (by omega) (by omega)) (fun a b q1 q2 => hx a b (by omega) (by omega) (by omega)) (hx2 _ _ (by omega) (by omega) (by omega) (by omega) (by omega)) (hm0 49 (by omega)) (fun c => hm1 39 c (by omega)) h8, fun j hj => ?_⟩
  · obtain ⟨⟨a1, a2⟩, a3, h⟩ := h2 s hs
    have x0 : ∀ b, σ'.1 (10 + s) b = σ.1 (10 + s) b := fun b => hx _ _ (by omega) (by omega) (by omega)
    refine ⟨⟨by rw [hm1 25 s (by omega)]; exact a1, by rw [hm1 25 s (by omega)]; exact a2⟩, by rw [x0, hm1 23 s (by omega)]; exact a3, ?_⟩
    rcases h with ⟨b1, b2⟩ | ⟨b1, ⟨o, o4, b2, b3⟩, b4, b5⟩ | ⟨b1, w, hw, b2, b3⟩
    · exact Or.inl ⟨by rw [hm1 23 s (by omega)]; exact b1, by rw [x0]; exact b2⟩
    · refine Or.inr (Or.inl ⟨by rw [hm1 23 s (by omega)]; exact b1, ⟨o, o4, by rw [hm1 24 s (by omega)]; exact b2, by rw [x0]; exact b3⟩, by rw [x0, hm1 25 s (by omega)]; exact b4, fun i hi => ?_⟩)
      rw [hm1 25 s (by omega)] at hi
      rw [hx2 _ _ (by omega) (by omega) (by omega) (by omega) (by omega), hm2]
      exact b5 i hi
    · exact Or.inr (Or.inr ⟨by rw [hm1 23 s (by omega)]; exact b1, w, by omega, by rw [hm1 26 s (by omega)]; exact b2, by rw [x0]; exact b3⟩)
  · rw [hx _ _ (by omega) (by omega) (by omega), hm1 6 k (by omega)]; exact h3 k q1 q2
  · rw [hx _ _ (by omega) (by omega) (by omega), hm0 5 (by omega)]; exact h4
  · rw [hx _ _ (by omega) (by omega) (by omega), hm0 48 (by omega)]; exact h5
  · rw [hm0 48 (by omega)]; exact h6
  · rw [hm0 48 (by omega)] at hl
    rw [hx _ _ (by omega) (by omega) (by omega), hm1 47 i (by omega)]; exact h7 i hi hl
  · rw [hm1 29 j (by omega)]; exact h9 j hj
theorem gbM_oo {τ : xS} {k a c : Nat} (h : a < 13 ∨ (17 < a ∧ a < 40) ∨ 44 < a) : (gbM k τ).1 a c = τ.1 a c := gbM_o (by omega)
theorem TA_beats {B G N : Nat} {σ τ : xS} (hA : TA B G N σ τ.1) (n : Int32) : TA B G N (gbsX B n σ) (goesM τ n).1 ∧ mbX B (tn n) σ = mbM (tn n) τ := by
  obtain ⟨⟨hT, hW⟩, ⟨c1, c2, c3⟩, hh⟩ := hA
  obtain ⟨⟨b1, b2⟩, b3⟩ := beats_ok hT hW (tn n)
  have hgo : ∀ a c, a ≠ 0 ∨ (c ≠ 2 ∧ c ≠ 3) → (goesM τ n).1 a c = (gbM (tn n) τ).1 a c := fun a c q => by unfold goesM; rw [xI_n (by omega), xI_n (by omega)]
  refine ⟨⟨⟨?_, ?_⟩, ⟨?_, ?_, ?_⟩, ?_⟩, b3⟩
  · exact TW_v (fun a c q1 q2 => hgo a c (by omega)) (fun a w q1 q2 q3 => hgo a w (by omega)) (gbs_TW b2.1.1 b2.1.2.1 b1)
  · exact WF_v ⟨hgo 0 0 (by omega), hgo 0 1 (by omega)⟩ (fun a c q1 q2 => hgo a c (by omega)) (fun a w q1 q2 q3 => hgo a w (by omega)) b2
  · unfold gbsX goesM
    rw [xI_n (by omega), xI_s, xI_n (by omega), xI_s, c1]
  · unfold gbsX goesM
    rw [xI_s, xI_s, c2, b3]
  · unfold gbsX goesM
    rw [xI_n (by omega), xI_n (by omega), xI_n (by omega), xI_n (by omega), gbX_B, gbM_oo (by omega)]
    exact c3
  · have : (gbsX B n σ).2 = σ.2 := by unfold gbsX; show (gbX B (tn n) σ).2 = _; rw [gbX_2]
    rw [this]; exact hh
theorem ok_beat {G N : Nat} {σ τ : xS} (h : RRn G N σ τ) (n : Int32) : OKp (beaX σ n) (beaM τ n) := by
  obtain ⟨⟨hG, hN⟩, ⟨c1, c2⟩, ⟨c3, c4⟩⟩ := RRn_G h
  unfold beaX beaM
  by_cases hn : 1 ≤ n ∧ n ≤ 99
  · have hn' : ¬ (n < 1 ∨ 99 < n) := fun q => q.elim (fun z => Int32.not_lt.mpr hn.1 z) (fun z => Int32.not_lt.mpr hn.2 z)
    rw [if_neg hn', if_pos hn]
    obtain ⟨a1, a2⟩ := TA_beats h.1 n
    refine ⟨a2, G, N, RRn_t h a1 (Nat.le_refl _) (fun a b q q2 q3 => ?_) (fun a b q _ _ _ _ => ?_) (fun c q => ?_) (fun a c q => ?_) (fun c => ?_)⟩
    · show (gbsX 100 n σ).1 a b = _
      unfold gbsX
      rw [xI_n (by omega), xI_n (by omega), gbX_f (by omega) (by rw [c3, tn_nI (by omega)]; exact hN)]
    · show (gbsX 100 n σ).2 a b = _
      unfold gbsX
      show (gbX 100 (tn n) σ).2 a b = _
      rw [gbX_2]
    · show (goesM τ n).1 0 c = _
      unfold goesM
      rw [xI_n (by omega), xI_n (by omega), gbM_oo (by omega)]
    · show (goesM τ n).1 a c = _
      unfold goesM
      rw [xI_n (by omega), xI_n (by omega), gbM_oo (by omega)]
    · show (goesM τ n).2 27 c = _
      unfold goesM
      show (gbM (tn n) τ).2 27 c = _
      rw [gbM_2]
  · have hn' : n < 1 ∨ 99 < n := by
      by_cases q : 1 ≤ n
      · exact Or.inr (Int32.not_le.mp (fun z => hn ⟨q, z⟩))
      · exact Or.inl (Int32.not_le.mp q)
    rw [if_pos hn', if_neg hn]
    exact no_p rk6 h
theorem ok_teach {G N : Nat} {σ τ : xS} (h : RRn G N σ τ) (x g : Int32) : OKp (teaX σ x g) (teaM τ x g) := by
  obtain ⟨⟨hG, hN⟩, ⟨c1, c2⟩, ⟨c3, c4⟩⟩ := RRn_G h
  unfold teaX teaM
  rw [c1, c2, c3, c4]
  by_cases hx : ¬ (0 ≤ x ∧ x < nI N) ∨ ¬ (0 ≤ g ∧ g < nI G)
  · rw [if_pos hx, if_pos hx]
    exact no_p rk1 h
  · rw [if_neg hx, if_neg hx]
    obtain ⟨w, hw, rfl⟩ := rgl (by omega) (Classical.not_not.mp (fun q => hx (Or.inl q)))
    obtain ⟨g', hg, rfl⟩ := rgl (by omega) (Classical.not_not.mp (fun q => hx (Or.inr q)))
    rw [whoK_n (by omega), tn_nI (by omega)]
    obtain ⟨⟨hT, hW⟩, hC, hh⟩ := h.1
    obtain ⟨k0, k1, k2, k3, k4, k5, k6⟩ := hT.2.2.1 w hw
    obtain ⟨k, p, d, g0, q, t, ⟨b1, b2, b3, b4, b5, b6⟩, e1, e2, e3, e4, e5, e6⟩ := hW.2.2.1 w hw
    obtain ⟨l, a, ⟨l1, l2, l3⟩, f1, f2, f3⟩ := hW.2.1 g' hg
    have hσ : ∀ a b, a ≠ 100 + 20 + w → (xI (xI σ (100 + 20 + w) 3 (nI g')) (100 + 20 + w) 4 0).1 a b = σ.1 a b := fun a b q => by rw [xI_n (by omega), xI_n (by omega)]
    have hσb : ∀ b, b ≠ 3 → b ≠ 4 → (xI (xI σ (100 + 20 + w) 3 (nI g')) (100 + 20 + w) 4 0).1 (100 + 20 + w) b = σ.1 (100 + 20 + w) b := fun b q q2 => by rw [xI_n (by omega), xI_n (by omega)]
    have hv : ∀ a c, (a ≠ 15 ∧ a ≠ 16) ∨ c ≠ w → (xI (xI τ 15 w (nI g')) 16 w 0).1 a c = τ.1 a c := fun a c q => by rw [xI_n (by omega), xI_n (by omega)]
    have s3 : (xI (xI σ (100 + 20 + w) 3 (nI g')) (100 + 20 + w) 4 0).1 (100 + 20 + w) 3 = nI g' := by rw [xI_n (by omega), xI_s]
    have s4 : (xI (xI σ (100 + 20 + w) 3 (nI g')) (100 + 20 + w) 4 0).1 (100 + 20 + w) 4 = 0 := xI_s
    have m15 : (xI (xI τ 15 w (nI g')) 16 w 0).1 15 w = nI g' := by rw [xI_n (by omega), xI_s]
    have m16 : (xI (xI τ 15 w (nI g')) 16 w 0).1 16 w = 0 := xI_s
    have h2' : (xI (xI σ (100 + 20 + w) 3 (nI g')) (100 + 20 + w) 4 0).2 = σ.2 := rfl
    have h2m : (xI (xI τ 15 w (nI g')) 16 w 0).2 = τ.2 := rfl
    generalize xI (xI σ (100 + 20 + w) 3 (nI g')) (100 + 20 + w) 4 0 = S' at *
    generalize xI (xI τ 15 w (nI g')) 16 w 0 = U' at *
    refine ⟨k3, G, N, RRn_t h ⟨⟨TW_upd hT hG hσ (by rw [h2']) (fun a c q q2 => hv a c (by omega)) ⟨?_, ?_, ?_, ?_, ?_, ?_, ?_⟩, WF_upd hW (fun a c q q2 => hv a c (by omega)) ⟨k, p, d, g', 0, t, ⟨b1, b2, b3, hg, by rw [hv 8 _ (by omega), f1, tn_nI (by omega)]; omega, b6⟩, by rw [hv 11 _ (by omega)]; exact e1, by rw [hv 13 _ (by omega)]; exact e2, by rw [hv 14 _ (by omega)]; exact e3, m15, m16, by rw [hv 17 _ (by omega)]; exact e6⟩⟩, ⟨?_, ?_, ?_⟩, by show HB (S'.2 100 0); rw [h2']; exact hh⟩ (Nat.le_refl _) (fun a b q q2 q3 => hσ a b (by omega)) (fun a b _ _ _ _ _ => by show S'.2 a b = _; rw [h2']) (fun c q => hv 0 c (by omega)) (fun a c q => hv a c (by omega)) (fun c => by show U'.2 27 c = _; rw [h2m])⟩
    · rw [hσb 0 (by omega) (by omega), hv 11 _ (by omega)]; exact k0
    · rw [hσb 1 (by omega) (by omega), hv 13 _ (by omega)]; exact k1
    · rw [hσb 2 (by omega) (by omega), hv 14 _ (by omega)]; exact k2
    · rw [s3, m15]
    · rw [s4, m16]
    · rw [hσb 5 (by omega) (by omega), hv 17 _ (by omega)]; exact k5
    · rw [hσb 6 (by omega) (by omega), hv 12 _ (by omega)]; exact k6
    · show S'.1 100 3 = U'.1 0 2
      rw [hσ _ _ (by omega), hv 0 _ (by omega)]; exact hC.1
    · show S'.1 100 4 = U'.1 0 3
      rw [hσ _ _ (by omega), hv 0 _ (by omega)]; exact hC.2.1
    · show S'.1 100 5 = U'.1 0 4
      rw [hσ _ _ (by omega), hv 0 _ (by omega)]; exact hC.2.2
theorem ok_seed {G N : Nat} {σ τ : xS} (h : RRn G N σ τ) (v : Int32) : OKp (seeX σ v) (seeM τ v) := by
  obtain ⟨⟨hG, hN⟩, ⟨c1, c2⟩, ⟨c3, c4⟩⟩ := RRn_G h
  obtain ⟨⟨hT, hW⟩, hC, hh⟩ := h.1
  have hσ : ∀ a b, a ≠ 100 ∨ b ≠ 5 → (xI σ 100 5 v).1 a b = σ.1 a b := fun a b q => xI_n (by omega)
  have hv : ∀ a c, a ≠ 0 ∨ c ≠ 4 → (xI τ 0 4 v).1 a c = τ.1 a c := fun a c q => xI_n (by omega)
  refine ⟨hC.2.2, G, N, RRn_t h ⟨⟨TW_v (fun a c _ _ => hv a c (by omega)) (fun a w _ _ _ => hv a w (by omega)) (TW_c hG hN (fun a b _ _ q3 => hσ a b (by omega)) rfl hT), WF_v ⟨hv 0 0 (by omega), hv 0 1 (by omega)⟩ (fun a c _ _ => hv a c (by omega)) (fun a w _ _ _ => hv a w (by omega)) hW⟩, ⟨?_, ?_, ?_⟩, hh⟩ (Nat.le_refl _) (fun a b q q2 q3 => hσ a b (by omega)) (fun _ _ _ _ _ _ _ => rfl) (fun c q => hv 0 c (by omega)) (fun a c q => hv a c (by omega)) (fun _ => rfl)⟩
  · show (xI σ 100 5 v).1 100 3 = (xI τ 0 4 v).1 0 2
    rw [hσ _ _ (by omega), hv _ _ (by omega)]; exact hC.1
  · show (xI σ 100 5 v).1 100 4 = (xI τ 0 4 v).1 0 3
    rw [hσ _ _ (by omega), hv _ _ (by omega)]; exact hC.2.1
  · show (xI σ 100 5 v).1 100 5 = (xI τ 0 4 v).1 0 4
    rw [xI_s, xI_s]
/-- one more walker -/
theorem addW_o {σ : xS} {B W : Nat} {k p d g a : Int32} {c b : Nat} (h : c ≠ W) (h2 : c ≠ B ∨ b ≠ 2) : (addW σ B W k p d g a).1 c b = σ.1 c b := by
  unfold addW
  rw [xI_n (by omega), xI_n (by omega), xI_n (by omega), xI_n (by omega), xI_n (by omega), xI_n (by omega), xI_n (by omega), xI_n (by omega)]
theorem addW_W {σ : xS} {B W : Nat} {k p d g a : Int32} (h : W ≠ B) : (addW σ B W k p d g a).1 W 0 = k ∧ (addW σ B W k p d g a).1 W 1 = p ∧ (addW σ B W k p d g a).1 W 2 = d ∧ (addW σ B W k p d g a).1 W 3 = g ∧ (addW σ B W k p d g a).1 W 4 = 0 ∧ (addW σ B W k p d g a).1 W 5 = 0 ∧ (addW σ B W k p d g a).1 W 6 = a := by
  unfold addW
  refine ⟨?_, ?_, ?_, ?_, ?_, ?_, ?_⟩
  · rw [xI_n (by omega), xI_n (by omega), xI_n (by omega), xI_n (by omega), xI_n (by omega), xI_n (by omega), xI_n (by omega), xI_s]
  · rw [xI_n (by omega), xI_n (by omega), xI_n (by omega), xI_n (by omega), xI_n (by omega), xI_n (by omega), xI_s]
  · rw [xI_n (by omega), xI_n (by omega), xI_n (by omega), xI_n (by omega), xI_n (by omega), xI_s]
  · rw [xI_n (by omega), xI_n (by omega), xI_n (by omega), xI_n (by omega), xI_s]
  · rw [xI_n (by omega), xI_n (by omega), xI_n (by omega), xI_s]
  · rw [xI_n (by omega), xI_n (by omega), xI_s]
  · rw [xI_n (by omega), xI_s]
theorem adM_o {τ : xS} {k p d g a : Int32} {c b : Nat} (h : (c < 11 ∨ 17 < c) ∨ b ≠ tn (τ.1 0 1)) (h2 : c ≠ 0 ∨ b ≠ 1) : (adM τ k p d g a).1 c b = τ.1 c b := by
  unfold adM
  rw [xI_n (by omega), xI_n (by omega), xI_n (by omega), xI_n (by omega), xI_n (by omega), xI_n (by omega), xI_n (by omega), xI_n (by omega)]
theorem adM_W {τ : xS} {k p d g a : Int32} : (adM τ k p d g a).1 11 (tn (τ.1 0 1)) = k ∧ (adM τ k p d g a).1 13 (tn (τ.1 0 1)) = p ∧ (adM τ k p d g a).1 14 (tn (τ.1 0 1)) = d ∧ (adM τ k p d g a).1 15 (tn (τ.1 0 1)) = g ∧ (adM τ k p d g a).1 16 (tn (τ.1 0 1)) = 0 ∧ (adM τ k p d g a).1 17 (tn (τ.1 0 1)) = 0 ∧ (adM τ k p d g a).1 12 (tn (τ.1 0 1)) = a := by
  unfold adM
  refine ⟨?_, ?_, ?_, ?_, ?_, ?_, ?_⟩
  · rw [xI_n (by omega), xI_n (by omega), xI_n (by omega), xI_n (by omega), xI_n (by omega), xI_n (by omega), xI_n (by omega), xI_s]
  · rw [xI_n (by omega), xI_n (by omega), xI_n (by omega), xI_n (by omega), xI_n (by omega), xI_n (by omega), xI_s]
  · rw [xI_n (by omega), xI_n (by omega), xI_n (by omega), xI_n (by omega), xI_n (by omega), xI_s]
  · rw [xI_n (by omega), xI_n (by omega), xI_n (by omega), xI_n (by omega), xI_s]
  · rw [xI_n (by omega), xI_n (by omega), xI_n (by omega), xI_s]
  · rw [xI_n (by omega), xI_n (by omega), xI_s]
  · rw [xI_n (by omega), xI_s]
theorem TW_add {B G N : Nat} {σ τ : xS} (hT : TW B G N σ τ.1) (hW : WF G N τ.1) (hN : N < 6) {k p d g : Nat} {a : Int32} (hk : k < 7) (hp : p < 49) (hd : d < 4) (hg : g < G) : TW B G (N + 1) (addW σ B (B + 20 + N) (nI k) (nI p) (nI d) (nI g) a) (adM τ (nI k) (nI p) (nI d) (nI g) a).1 ∧ WF G (N + 1) (adM τ (nI k) (nI p) (nI d) (nI g) a).1 := by
  have c4 : τ.1 0 1 = nI N := hW.1.2.2.2
  have hx := addW_W (σ := σ) (B := B) (W := B + 20 + N) (k := nI k) (p := nI p) (d := nI d) (g := nI g) (a := a) (by omega)
  have hm := adM_W (τ := τ) (k := nI k) (p := nI p) (d := nI d) (g := nI g) (a := a)
  have hxo : ∀ c b, c ≠ B + 20 + N → (c ≠ B ∨ b ≠ 2) → (addW σ B (B + 20 + N) (nI k) (nI p) (nI d) (nI g) a).1 c b = σ.1 c b := fun c b q q2 => addW_o q q2
  have hmo : ∀ c b, ((c < 11 ∨ 17 < c) ∨ b ≠ N) → (c ≠ 0 ∨ b ≠ 1) → (adM τ (nI k) (nI p) (nI d) (nI g) a).1 c b = τ.1 c b := fun c b q q2 => adM_o (by rw [c4, tn_nI (by omega)]; exact q) q2
  have hx2 : (addW σ B (B + 20 + N) (nI k) (nI p) (nI d) (nI g) a).1 B 2 = nI (N + 1) := by unfold addW; rw [xI_s, hT.1.2, nI_1]
  have hm1 : (adM τ (nI k) (nI p) (nI d) (nI g) a).1 0 1 = nI (N + 1) := by rw [adM_1, c4, nI_1]
  have h2 : (addW σ B (B + 20 + N) (nI k) (nI p) (nI d) (nI g) a).2 = σ.2 := rfl
  rw [c4, tn_nI (by omega)] at hm
  generalize addW σ B (B + 20 + N) (nI k) (nI p) (nI d) (nI g) a = S' at *
  generalize adM τ (nI k) (nI p) (nI d) (nI g) a = U' at *
  obtain ⟨x0, x1, x2, x3, x4, x5, x6⟩ := hx
  obtain ⟨m0, m1, m2, m3, m4, m5, m6⟩ := hm
  obtain ⟨⟨b1, b2⟩, hg', hw', hl'⟩ := hT
  obtain ⟨⟨d1, d2, d3, d4⟩, e1, e2, e3⟩ := hW
  constructor
  · refine ⟨⟨by rw [hxo _ _ (by omega) (by omega)]; exact b1, hx2⟩, fun g0 hg0 => ?_, fun w hw => ?_, by rw [h2]; intro q hq; rw [hmo 10 q (by omega) (by omega)]; exact hl' q hq⟩
    · obtain ⟨f1, f2, f3⟩ := hg' g0 hg0
      refine ⟨by rw [hxo _ _ (by omega) (by omega), hmo 8 _ (by omega) (by omega)]; exact f1, by rw [hxo _ _ (by omega) (by omega), hmo 9 _ (by omega) (by omega)]; exact f2, fun j hj => ?_⟩
      rw [hmo 8 _ (by omega) (by omega)] at hj
      rw [hxo _ _ (by omega) (by omega), hmo 7 _ (by omega) (by omega)]
      exact f3 j hj
    · by_cases e : w = N
      · rw [e]
        exact ⟨x0.trans m0.symm, x1.trans m1.symm, x2.trans m2.symm, x3.trans m3.symm, x4.trans m4.symm, x5.trans m5.symm, x6.trans m6.symm⟩
      · obtain ⟨k0, k1, k2, k3, k4, k5, k6⟩ := hw' w (by omega)
        refine ⟨?_, ?_, ?_, ?_, ?_, ?_, ?_⟩ <;> rw [hxo _ _ (by omega) (by omega), hmo _ w (by omega) (by omega)] <;> assumption
  · refine ⟨⟨d1, by omega, by rw [hmo 0 0 (by omega) (by omega)]; exact d3, hm1⟩, fun g0 hg0 => wfG_v (fun a c q1 q2 => hmo a c (by omega) (by omega)) (e1 g0 hg0), fun w hw => ?_, fun q hq => by rw [hmo 10 q (by omega) (by omega)]; exact e3 q hq⟩
    by_cases e : w = N
    · rw [e]
      obtain ⟨l, aw, ⟨l1, l2, l3⟩, f1, f2, f3⟩ := e1 g hg
      exact ⟨k, p, d, g, 0, 0, ⟨hk, hp, hd, hg, by rw [hmo 8 _ (by omega) (by omega), f1, tn_nI (by omega)]; omega, by omega⟩, m0, m1, m2, m3, m4, m5⟩
    · exact wfW_v (fun a q1 q2 => hmo a w (by omega) (by omega)) (fun g0 => hmo 8 g0 (by omega) (by omega)) (e2 w (by omega))
theorem RRn_add {G N : Nat} {σ τ : xS} (h : RRn G N σ τ) (hN : N < 6) {k p d g : Nat} {a : Int32} (hk : k < 7) (hp : p < 49) (hd : d < 4) (hg : g < G) : RRn G (N + 1) (addW σ 100 (100 + 20 + N) (nI k) (nI p) (nI d) (nI g) a) (adM τ (nI k) (nI p) (nI d) (nI g) a) := by
  obtain ⟨⟨hT, hW⟩, hC, hh⟩ := h.1
  have c4 : τ.1 0 1 = nI N := hW.1.2.2.2
  obtain ⟨a1, a2⟩ := TW_add hT hW hN (a := a) hk hp hd hg
  have hxo : ∀ c b, c ≠ 100 + 20 + N → (c ≠ 100 ∨ b ≠ 2) → (addW σ 100 (100 + 20 + N) (nI k) (nI p) (nI d) (nI g) a).1 c b = σ.1 c b := fun c b q q2 => addW_o q q2
  have hmo : ∀ c b, ((c < 11 ∨ 17 < c) ∨ b ≠ N) → (c ≠ 0 ∨ b ≠ 1) → (adM τ (nI k) (nI p) (nI d) (nI g) a).1 c b = τ.1 c b := fun c b q q2 => adM_o (by rw [c4, tn_nI (by omega)]; exact q) q2
  refine RRn_t h ⟨⟨a1, a2⟩, ⟨?_, ?_, ?_⟩, hh⟩ (by omega) (fun a b q q2 q3 => hxo a b (by omega) (by omega)) (fun _ _ _ _ _ _ _ => rfl) (fun c q => hmo 0 c (by omega) (by omega)) (fun a c q => hmo a c (by omega) (by omega)) (fun _ => rfl)
  · rw [hxo _ _ (by omega) (by omega), hmo _ _ (by omega) (by omega)]; exact hC.1
  · rw [hxo _ _ (by omega) (by omega), hmo _ _ (by omega) (by omega)]; exact hC.2.1
  · rw [hxo _ _ (by omega) (by omega), hmo _ _ (by omega) (by omega)]; exact hC.2.2
