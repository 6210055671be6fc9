/-! THE PAIR: the class's town and the reference's arrays -/
theorem nI_i {a b : Nat} (ha : a < 2 ^ 31) (hb : b < 2 ^ 31) (h : nI a = nI b) : a = b := (nI_eq ha hb).mp h
theorem nI_0' : (0 : Int32) = nI 0 := rfl
theorem nI_1' : (1 : Int32) = nI 1 := rfl
theorem nI_rg {x : Int32} {k : Nat} (hk : k < 2 ^ 31) (h0 : 0 ≤ x) (h : x < nI k) : ∃ n, n < k ∧ x = nI n := by
  refine ⟨tn x, ?_, (tn_of h0).symm⟩
  have h1 := t_lt.mp h
  rw [t_nI hk] at h1
  have h2 := t_le.mp h0
  rw [t_0] at h2
  rw [t_tn]
  omega
theorem nI_rl {x : Int32} {k : Nat} (hk : k < 2 ^ 31) (h0 : 0 ≤ x) (h : x ≤ nI k) : ∃ n, n ≤ k ∧ x = nI n := by
  refine ⟨tn x, ?_, (tn_of h0).symm⟩
  have h1 := t_le.mp h
  rw [t_nI hk] at h1
  have h2 := t_le.mp h0
  rw [t_0] at h2
  rw [t_tn]
  omega
/-- a gait, a walker, all of a town: numbers that may be -/
def wfG (v : Nat → Nat → Int32) (g : Nat) : Prop := ∃ l a : Nat, (1 ≤ l ∧ l ≤ 8 ∧ a < 3) ∧ v 8 g = nI l ∧ v 9 g = nI a ∧ ∀ j, j < l → ∃ s, s < 4 ∧ v 7 (8 * g + j) = nI s
def wfW (v : Nat → Nat → Int32) (G w : Nat) : Prop := ∃ k p d g q t : Nat, (k < 7 ∧ p < 49 ∧ d < 4 ∧ g < G ∧ q < tn (v 8 g) ∧ t < 2) ∧ v 11 w = nI k ∧ v 13 w = nI p ∧ v 14 w = nI d ∧ v 15 w = nI g ∧ v 16 w = nI q ∧ v 17 w = nI t
def WF (G N : Nat) (v : Nat → Nat → Int32) : Prop := (G ≤ 8 ∧ N ≤ 6 ∧ v 0 0 = nI G ∧ v 0 1 = nI N) ∧ (∀ g, g < G → wfG v g) ∧ (∀ w, w < N → wfW v G w) ∧ (∀ p, p < 49 → ∃ b, b < 2 ∧ v 10 p = nI b)
def TG (B : Nat) (σ : xS) (v : Nat → Nat → Int32) (g : Nat) : Prop := σ.1 (B + 10 + g) 0 = v 8 g ∧ σ.1 (B + 10 + g) 1 = v 9 g ∧ ∀ j, j < tn (v 8 g) → xshr (σ.1 (B + 10 + g) 2) (2 * nI j) &&& 3 = v 7 (8 * g + j)
def TK (σ : xS) (K : Nat) (v : Nat → Nat → Int32) (w : Nat) : Prop := σ.1 K 0 = v 11 w ∧ σ.1 K 1 = v 13 w ∧ σ.1 K 2 = v 14 w ∧ σ.1 K 3 = v 15 w ∧ σ.1 K 4 = v 16 w ∧ σ.1 K 5 = v 17 w ∧ σ.1 K 6 = v 12 w
def TL (x : Int64) (v : Nat → Nat → Int32) : Prop := ∀ p, p < 49 → (xlushr x (nI p) &&& 1 = 1 ↔ v 10 p = 1)
def TW (B G N : Nat) (σ : xS) (v : Nat → Nat → Int32) : Prop := (σ.1 B 1 = nI G ∧ σ.1 B 2 = nI N) ∧ (∀ g, g < G → TG B σ v g) ∧ (∀ w, w < N → TK σ (B + 20 + w) v w) ∧ TL (σ.2 B 0) v
/-! one step -/
theorem ptw_ok : ∀ p, p < 49 → ∀ d, d < 4 → (ptw (nI p) (nI d) = -1 ∧ (rwM (nI p) (nI d) < 0 ∨ 6 < rwM (nI p) (nI d) ∨ clM (nI p) (nI d) < 0 ∨ 6 < clM (nI p) (nI d))) ∨ (¬ (rwM (nI p) (nI d) < 0 ∨ 6 < rwM (nI p) (nI d) ∨ clM (nI p) (nI d) < 0 ∨ 6 < clM (nI p) (nI d)) ∧ ptw (nI p) (nI d) = 7 * rwM (nI p) (nI d) + clM (nI p) (nI d) ∧ tn (ptw (nI p) (nI d)) < 49 ∧ 0 ≤ ptw (nI p) (nI d)) := by decide +kernel
theorem ah_eq {τ : xS} {p d : Nat} (hp : p < 49) (hd : d < 4) : (ptw (nI p) (nI d) = -1 ∧ ahM τ (nI p) (nI d) = -1) ∨ (∃ t, t < 49 ∧ ptw (nI p) (nI d) = nI t ∧ ahM τ (nI p) (nI d) = if τ.1 10 t = 1 then -1 else nI t) := by
  rcases ptw_ok p hp d hd with ⟨h1, h2⟩ | ⟨h1, h2, h3, h4⟩
  · exact Or.inl ⟨h1, by rw [ahM, if_pos h2]⟩
  · refine Or.inr ⟨tn (ptw (nI p) (nI d)), h3, (tn_of h4).symm, ?_⟩
    rw [ahM, if_neg h1, ← h2, tn_of h4]
def trw (d t u : Int32) : Int32 := xrem (d + (if u = 2 then 2 else if u = 0 then (if t = 0 then 3 else 1) else (if t = 0 then 1 else 3))) 4
theorem trn_0 : ∀ d, d < 4 → ∀ t, t < 2 → ∀ a, a < 3 → trn (nI d) (nI t) (qrt (nI a) 0) = trw (nI d) (nI t) (nI a) ∧ ∃ e, e < 4 ∧ trw (nI d) (nI t) (nI a) = nI e := by decide +kernel
theorem trn_s : ∀ d, d < 4 → ∀ t, t < 2 → ∀ a, a < 3 → ∀ s, s < 2 → trn (nI d) (nI t) (qrt (nI a) (nI (s + 1))) = trw (nI d) (nI t) (nI (s + 1) - 1) ∧ ∃ e, e < 4 ∧ trw (nI d) (nI t) (nI (s + 1) - 1) = nI e := by decide +kernel
theorem trn_3 : ∀ d, d < 4 → ∀ t, t < 2 → ∀ a, a < 3 → trn (nI d) (nI t) (qrt (nI a) 3) = nI d := by decide +kernel
theorem dn_ok : ∀ l, l < 9 → ∀ q, q < l → (if nI q + 1 < nI l then nI q + 1 else (0 : Int32)) = xrem (nI q + 1) (nI l) ∧ ∃ e, e < l ∧ xrem (nI q + 1) (nI l) = nI e := by decide +kernel
theorem trM_e {τ : xS} {w : Nat} {u : Int32} : trM τ w u = trw (τ.1 14 w) (τ.1 17 w) u := rfl
theorem tn8g {g q : Nat} (hg : g < 8) (hq : q < 8) : tn (8 * nI g + nI q) = 8 * g + q := by
  rw [show (8 : Int32) = nI 8 from rfl, pk_mul, nI_add, tn_nI (by omega)]
theorem stepX_p {σ : xS} {B K : Nat} : (stepX σ B K).1 K 1 = if ¬ tgt σ B K = -1 ∧ ¬ xlushr (σ.2 B 0) (tgt σ B K) &&& 1 = 1 then tgt σ B K else σ.1 K 1 := by
  unfold stepX
  rw [xI_n (by omega)]
  split
  · rw [xI_s]
  · rw [xI_n (by omega)]
theorem stepX_d {σ : xS} {B K : Nat} : (stepX σ B K).1 K 2 = if ¬ tgt σ B K = -1 ∧ ¬ xlushr (σ.2 B 0) (tgt σ B K) &&& 1 = 1 then σ.1 K 2 else trn (σ.1 K 2) (σ.1 K 5) (qrt (σ.1 (gaiK B (σ.1 K 3)) 1) (stp σ B K)) := by
  unfold stepX
  rw [xI_n (by omega)]
  split
  · rw [xI_n (by omega)]
  · rw [xI_s]
theorem stepX_r {σ : xS} {B K b : Nat} (h : b ≠ 1 ∧ b ≠ 2 ∧ b ≠ 4) : (stepX σ B K).1 K b = σ.1 K b := by
  unfold stepX
  rw [xI_n (by omega)]
  split
  · rw [xI_n (by omega)]
  · rw [xI_n (by omega)]
theorem doM_13 {τ : xS} {w : Nat} : (doM τ w).1 13 w = if spM τ w = 0 then (if ahM τ (τ.1 13 w) (τ.1 14 w) = -1 then τ.1 13 w else ahM τ (τ.1 13 w) (τ.1 14 w)) else τ.1 13 w := by
  unfold doM doA
  rw [xI_n (by omega)]
  split
  · split
    · rw [xI_n (by omega)]
    · rw [xI_s]
  · split
    · rw [xI_n (by omega)]
    · rfl
theorem doM_14 {τ : xS} {w : Nat} : (doM τ w).1 14 w = if spM τ w = 0 then (if ahM τ (τ.1 13 w) (τ.1 14 w) = -1 then trM τ w (τ.1 9 (tn (τ.1 15 w))) else τ.1 14 w) else if spM τ w < 3 then trM τ w (spM τ w - 1) else τ.1 14 w := by
  unfold doM doA
  rw [xI_n (by omega)]
  split
  · split
    · rw [xI_s]
    · rw [xI_n (by omega)]
  · split
    · rw [xI_s]
    · rfl
theorem step_ok {B G N : Nat} {σ τ : xS} {K w : Nat} (hW : WF G N τ.1) (hT : TW B G N σ τ.1) (hk : TK σ K τ.1 w) (hw : wfW τ.1 G w) : TK (stepX σ B K) K (doM τ w).1 w ∧ wfW (doM τ w).1 G w := by
  obtain ⟨⟨hG8, hN6, hv0, hv1⟩, hWG, hWW, hWL⟩ := hW
  obtain ⟨⟨hB1, hB2⟩, hTG, hTK, hTL⟩ := hT
  obtain ⟨k, p, d, g, q, t, ⟨b1, b2, b3, b4, b5, b6⟩, e1, e2, e3, e4, e5, e6⟩ := hw
  obtain ⟨k0, k1, k2, k3, k4, k5, k6⟩ := hk
  obtain ⟨l, a, ⟨c1, c2, c3⟩, f1, f2, f3⟩ := hWG g b4
  obtain ⟨g0, g1, g2⟩ := hTG g b4
  have hl : tn (τ.1 8 g) = l := by rw [f1, tn_nI (by omega)]
  rw [hl] at b5 g2
  obtain ⟨s, hs4, hs⟩ := f3 q b5
  have hgk : gaiK B (σ.1 K 3) = B + 10 + g := by rw [k3, e4]; exact gaiK_n (by omega)
  have hstp : stp σ B K = nI s := by unfold stp; rw [hgk, k4, e5, g2 q b5, hs]
  have hsp : spM τ w = nI s := by unfold spM; rw [e4, e5, tn8g (by omega) (by omega), hs]
  have haw : σ.1 (gaiK B (σ.1 K 3)) 1 = nI a := by rw [hgk, g1, f2]
  have hlen : σ.1 (gaiK B (σ.1 K 3)) 0 = nI l := by rw [hgk, g0, f1]
  have hawM : τ.1 9 (tn (τ.1 15 w)) = nI a := by rw [e4, tn_nI (by omega), f2]
  have hlM : τ.1 8 (tn (τ.1 15 w)) = nI l := by rw [e4, tn_nI (by omega), f1]
  obtain ⟨hd1, q', hq', hd2⟩ := dn_ok l (by omega) q b5
  have X4 : (stepX σ B K).1 K 4 = nI q' := by unfold stepX; rw [xI_s, k4, e5, hlen, hd1, hd2]
  have M16 : (doM τ w).1 16 w = nI q' := by unfold doM; rw [xI_s, e5, hlM, hd2]
  have hs3 : ∀ n, n < 4 → n ≠ 0 → ¬ nI n = 0 := fun n h1 h2 => nI_ne0 (by omega) (by omega)
  have hm : ∀ n, n < 2 ^ 31 → ¬ nI n = -1 := fun n h => nm1_nI h
  have XP : ∃ p' d', p' < 49 ∧ d' < 4 ∧ (stepX σ B K).1 K 1 = nI p' ∧ (stepX σ B K).1 K 2 = nI d' ∧ (doM τ w).1 13 w = nI p' ∧ (doM τ w).1 14 w = nI d' := by
    rw [stepX_p, stepX_d, doM_13, doM_14, hsp, hstp, haw, hawM, k1, k2, k5, trM_e, trM_e, e2, e3, e6]
    unfold tgt
    rw [hstp, k1, k2, e2, e3]
    by_cases hs0 : s = 0
    · subst hs0
      rw [if_pos nI_00, if_pos nI_00, if_pos nI_00]
      obtain ⟨z1, d', hd', z2⟩ := trn_0 d b3 t b6 a c3
      rcases ah_eq (τ := τ) b2 b3 with ⟨h1, h2⟩ | ⟨u, hu, h1, h2⟩
      · rw [h1, h2, if_neg (fun h => h.1 rfl), if_neg (fun h => h.1 rfl), if_pos rfl, if_pos rfl]
        exact ⟨p, d', b2, hd', rfl, by rw [← z2, ← z1]; rfl, rfl, z2⟩
      · rw [h1, h2]
        by_cases hwl : τ.1 10 u = 1
        · rw [if_pos hwl, if_neg (fun h => h.2 ((hTL u hu).mpr hwl)), if_neg (fun h => h.2 ((hTL u hu).mpr hwl)), if_pos rfl, if_pos rfl]
          exact ⟨p, d', b2, hd', rfl, by rw [← z2, ← z1]; rfl, rfl, z2⟩
        · have hc : ¬ nI u = -1 ∧ ¬ xlushr (σ.2 B 0) (nI u) &&& 1 = 1 := ⟨hm u (by omega), fun h => hwl ((hTL u hu).mp h)⟩
          rw [if_neg hwl, if_pos hc, if_pos hc, if_neg hc.1, if_neg hc.1]
          exact ⟨u, d, hu, b3, rfl, rfl, rfl, rfl⟩
    · have h0 := hs3 s hs4 hs0
      rw [if_neg h0, if_neg h0, if_neg h0, if_neg (fun h => h.1 rfl), if_neg (fun h => h.1 rfl)]
      by_cases hs1 : s < 3
      · obtain ⟨s', rfl⟩ : ∃ s', s = s' + 1 := ⟨s - 1, by omega⟩
        obtain ⟨z1, d', hd', z2⟩ := trn_s d b3 t b6 a c3 s' (by omega)
        have c3' : nI (s' + 1) < 3 := (nI_ltI (b := 3) (by omega) (by omega)).mpr hs1
        rw [if_pos c3']
        exact ⟨p, d', b2, hd', rfl, by rw [z1, z2], rfl, z2⟩
      · have hs3' : s = 3 := by omega
        subst hs3'
        have c3n : ¬ nI 3 < 3 := by decide
        rw [if_neg c3n]
        exact ⟨p, d, b2, b3, rfl, trn_3 d b3 t b6 a c3, rfl, rfl⟩
  obtain ⟨p', d', hp', hd', x1, x2, m1, m2⟩ := XP
  have m11 : ∀ c, c ≠ 13 → c ≠ 14 → c ≠ 16 → (doM τ w).1 c w = τ.1 c w := fun c h1 h2 h3 => doM_o (Or.inr ⟨h1, h2, h3⟩)
  have m8 : ∀ b, (doM τ w).1 8 b = τ.1 8 b := fun b => doM_o (Or.inr (by omega))
  refine ⟨⟨?_, by rw [x1, m1], by rw [x2, m2], ?_, by rw [X4, M16], ?_, ?_⟩, k, p', d', g, q', t, ⟨b1, hp', hd', b4, by rw [m8, hl]; exact hq', b6⟩, ?_, m1, m2, ?_, M16, ?_⟩
  · rw [stepX_r (by omega), k0, m11 11 (by omega) (by omega) (by omega)]
  · rw [stepX_r (by omega), k3, m11 15 (by omega) (by omega) (by omega)]
  · rw [stepX_r (by omega), k5, m11 17 (by omega) (by omega) (by omega)]
  · rw [stepX_r (by omega), k6, m11 12 (by omega) (by omega) (by omega)]
  · rw [m11 11 (by omega) (by omega) (by omega), e1]
  · rw [m11 15 (by omega) (by omega) (by omega), e4]
  · rw [m11 17 (by omega) (by omega) (by omega), e6]
