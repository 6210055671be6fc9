/-! strangers -/
theorem RRn_sd {G N : Nat} {σ τ : xS} (h : RRn G N σ τ) {v u : Int32} (e : v = u) : RRn G N (xI σ 100 5 v) (xI τ 0 4 u) := by
  subst e
  obtain ⟨⟨hG, hN⟩, ⟨c1, c2⟩, ⟨c3, c4⟩⟩ := RRn_G h
  obtain ⟨⟨hT, hW⟩, hC, hh⟩ := h.1
  have hσ : ∀ a b, a ≠ 100 ∨ b ≠ 5 → (xI σ 100 5 v).1 a b = σ.1 a b := fun a b q => xI_n (by omega)
  have hv : ∀ a c, a ≠ 0 ∨ c ≠ 4 → (xI τ 0 4 v).1 a c = τ.1 a c := fun a c q => xI_n (by omega)
  refine RRn_t h ⟨⟨TW_v (fun a c _ _ => hv a c (by omega)) (fun a w _ _ _ => hv a w (by omega)) (TW_c hG hN (fun a b _ _ q3 => hσ a b (by omega)) rfl hT), WF_v ⟨hv 0 0 (by omega), hv 0 1 (by omega)⟩ (fun a c _ _ => hv a c (by omega)) (fun a w _ _ _ => hv a w (by omega)) hW⟩, ⟨?_, ?_, ?_⟩, hh⟩ (Nat.le_refl _) (fun a b q q2 q3 => hσ a b (by omega)) (fun _ _ _ _ _ _ _ => rfl) (fun c q => hv 0 c (by omega)) (fun a c q => hv a c (by omega)) (fun _ => rfl)
  · rw [hσ _ _ (by omega), hv _ _ (by omega)]; exact hC.1
  · rw [hσ _ _ (by omega), hv _ _ (by omega)]; exact hC.2.1
  · rw [xI_s, xI_s]
theorem RRn_dr {G N : Nat} {σ τ : xS} (h : RRn G N σ τ) : RRn G N (drS 100 σ) (drA τ) := RRn_sd h (by rw [h.1.2.1.2.2])
theorem RRn_sdI {G N : Nat} {σ τ : xS} (h : RRn G N σ τ) : ∀ i, RRn G N (sdI 100 i σ) (sdM τ i)
  | 0 => h
  | i + 1 => RRn_dr (RRn_sdI h i)
theorem dr_eq {G N n : Nat} {σ τ : xS} (h : RRn G N σ τ) (h0 : 0 < n) (hn : n < 65536) : drN (σ.1 100 5) (nI n) = dwV τ (nI n) := by
  unfold drN dwV
  rw [h.1.2.1.2.2, if_pos (show 0 < nI n from nI_lt (a := 0) h0 (by omega))]
theorem dpl_eq {G N : Nat} {σ τ : xS} (h : RRn G N σ τ) (i : Nat) : dpl 100 σ i = plM τ i := dr_eq (n := 49) (RRn_sdI h i) (by omega) (by omega)
theorem dw_lt {τ : xS} {i : Nat} : plM τ i < nI 49 := by
  obtain ⟨k, h1, h2⟩ := dw_b (τ := sdM τ i) (n := 49) (by omega) (by omega)
  rw [show plM τ i = nI k from h2]
  exact nI_lt h1 (by omega)
theorem dfr_eq {G N : Nat} {σ τ : xS} (h : RRn G N σ τ) (i : Nat) : dfr 100 σ i = dfM τ i := by
  have ha := at_eq h.1 (plM τ i)
  obtain ⟨q, hq, e⟩ := rgl (n := 49) (by omega) ⟨(plM_b (τ := τ) (i := i)).1.1, (dw_lt (τ := τ) (i := i))⟩
  have hl := h.1.1.1.2.2.2 q (by omega)
  obtain ⟨b, hb, eb⟩ := h.1.1.2.2.2.2 q (by omega)
  unfold dfr dfM
  rw [dpl_eq h i]
  unfold atX at ha
  rw [ha, e, tn_nI (by omega)]
  have : ¬ (xlushr (σ.2 100 0) (nI q) &&& 1 = 1) ↔ τ.1 10 q = 0 := by
    rw [hl]
    constructor
    · intro z
      have : b ≠ 1 := fun z' => z (by rw [eb, z']; rfl)
      rw [eb, show b = 0 by omega]
      rfl
    · intro z z'
      rw [z] at z'
      exact absurd z' (by decide)
  simp only [this]
theorem n6_lt : ∀ n, n ≤ 6 → (nI n < 6 ↔ n < 6) := by decide
def STR (σ τ : xS) (F F' : Int32 × xS) : Prop := F.1 = F'.1 ∧ ∃ G N, (0 < G ∧ RRn G N F.2 F'.2)
theorem str_ok {σ τ : xS} {F F' : Int32 × xS} (h : STR σ τ F F') : STR σ τ (sk1 F (drV F.2 100) (drT F.2 100)) (sm1 F' (xfs (dfM F'.2) 100)) := by
  obtain ⟨e, G, N, g0, h⟩ := h
  obtain ⟨⟨hG, hN⟩, ⟨c1, c2⟩, ⟨c3, c4⟩⟩ := RRn_G h
  unfold sk1 sm1
  rw [c3, c4]
  by_cases h6 : nI N < 6
  · rw [if_pos h6, if_pos h6]
    have hN6 := (n6_lt N hN).mp h6
    have ef : xfs (dfr 100 F.2) 100 = xfs (dfM F'.2) 100 := xfs_congr (fun j _ => dfr_eq h j)
    unfold drV drT
    rw [ef]
    generalize xfs (dfM F'.2) 100 = n
    unfold strY
    by_cases hn : n < 100
    · rw [if_pos hn, if_pos hn, if_pos hn, if_neg (show ¬ (1 : Int32) = 0 by decide)]
      refine ⟨by rw [e], G, N + 1, g0, ?_⟩
      unfold strX smS
      have h1 := RRn_sdI h (n + 1)
      have h2 := RRn_dr h1
      have h3 := RRn_dr h2
      have eG : F'.2.1 0 0 = nI G := c2
      obtain ⟨p, hp, ep⟩ := dw_b (τ := sdM F'.2 n) (n := 49) (by omega) (by omega)
      obtain ⟨d, hd, ed⟩ := dw_b (τ := sdM F'.2 (n + 1)) (n := 4) (by omega) (by omega)
      obtain ⟨g, hg, eg⟩ := dw_b (τ := drA (sdM F'.2 (n + 1))) (n := G) g0 (by omega)
      rw [c3, c1, eG, tn_nI (by omega), dpl_eq h n, show plM F'.2 n = nI p from ep]
      rw [show drN ((sdI 100 (n + 1) F.2).1 100 5) 4 = nI d from (dr_eq (n := 4) h1 (by omega) (by omega)).trans ed, show drN ((drS 100 (sdI 100 (n + 1) F.2)).1 100 5) (nI G) = nI g from (dr_eq (n := G) h2 g0 (by omega)).trans eg]
      rw [show dwV (sdM F'.2 (n + 1)) 4 = nI d from ed, eg]
      exact RRn_add (k := 0) h3 hN6 (by omega) hp hd hg
    · rw [if_neg hn, if_neg hn, if_neg hn, if_pos rfl]
      exact ⟨e, G, N, g0, RRn_sdI h 100⟩
  · rw [if_neg h6, if_neg h6]
    exact ⟨e, G, N, g0, h⟩
theorem strs_ok {G N : Nat} {σ τ : xS} (g0 : 0 < G) (h : RRn G N σ τ) : ∀ k, STR σ τ (skF σ k) (smF τ k)
  | 0 => ⟨rfl, G, N, g0, h⟩
  | k + 1 => str_ok (strs_ok g0 h k)
theorem ok_strangers {G N : Nat} {σ τ : xS} (h : RRn G N σ τ) (n : Int32) : OKp (strgX σ n) (strM τ n) := by
  obtain ⟨⟨hG, hN⟩, ⟨c1, c2⟩, ⟨c3, c4⟩⟩ := RRn_G h
  unfold strgX strM
  rw [c1, c2]
  by_cases h0 : nI G = 0
  · rw [if_pos h0, if_pos h0]; exact no_p rk5 h
  · rw [if_neg h0, if_neg h0]
    by_cases h1 : n < 1 ∨ 6 < n
    · rw [if_pos h1, if_pos h1]; exact no_p rk6 h
    · rw [if_neg h1, if_neg h1]
      obtain ⟨e, G', N', -, h'⟩ := strs_ok (by rcases Nat.eq_zero_or_pos G with z | z; exact absurd (by rw [z]; rfl) h0; exact z) h (tn n)
      exact ⟨e, G', N', h'⟩
