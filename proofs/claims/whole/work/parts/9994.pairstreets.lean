/-! streets, side by side -/
theorem RRn_tf {G N G' N' : Nat} {σ σ' τ τ' : xS} (h : RRn G N σ τ) (hT : TA 100 G' N' σ' τ'.1) (hN : N ≤ N') (hx : ∀ a b, a < 100 ∨ (300 ≤ a ∧ a < 400) → a ≠ 2 → a ≠ 3 → (a ≠ 0 ∨ b ≠ 10) → σ'.1 a b = σ.1 a b) (hx2 : ∀ a b, a ≠ 100 → a ≠ 200 → a ≠ 7 → a ≠ 8 → a < 400 → σ'.2 a b = σ.2 a b) (hf : σ'.1 0 10 = τ'.1 0 5) (hm0 : ∀ c, c = 48 ∨ c = 49 → τ'.1 0 c = τ.1 0 c) (hm1 : ∀ a c, a = 6 ∨ (23 ≤ a ∧ a ≤ 26) ∨ a = 29 ∨ a = 39 ∨ a = 47 → τ'.1 a c = τ.1 a c) (hm2 : ∀ c, τ'.2 27 c = τ.2 27 c) : RRn G' N' σ' τ' := by
  obtain ⟨h1, h2, h3, h4, ⟨h5, h6, h7⟩, h8, h9⟩ := h
  refine ⟨hT, fun s hs => ?_, fun k q1 q2 => ?_, ?_, ⟨?_, ?_, fun i hi hl => ?_⟩, IMr_f (hx _ _ (by omega) (by omega) (by omega) (by omega)) (fun a b q1 q2 => hx a b (by omega) (by omega) (by omega) (by omega)) (hx2 _ _ (by omega) (by omega) (by omega) (by omega) (by omega)) (hm0 49 (by omega)) (fun c => hm1 39 c (by omega)) h8, fun j hj => ?_⟩
  · obtain ⟨⟨a1, a2⟩, a3, h⟩ := h2 s hs
    have x0 : ∀ b, σ'.1 (10 + s) b = σ.1 (10 + s) b := fun b => hx _ _ (by omega) (by omega) (by omega) (by omega)
    refine ⟨⟨by rw [hm1 25 s (by omega)]; exact a1, by rw [hm1 25 s (by omega)]; exact a2⟩, by rw [x0, hm1 23 s (by omega)]; exact a3, ?_⟩
    rcases h with ⟨b1, b2⟩ | ⟨b1, ⟨o, o4, b2, b3⟩, b4, b5⟩ | ⟨b1, w, hw, b2, b3⟩
    · exact Or.inl ⟨by rw [hm1 23 s (by omega)]; exact b1, by rw [x0]; exact b2⟩
    · refine Or.inr (Or.inl ⟨by rw [hm1 23 s (by omega)]; exact b1, ⟨o, o4, by rw [hm1 24 s (by omega)]; exact b2, by rw [x0]; exact b3⟩, by rw [x0, hm1 25 s (by omega)]; exact b4, fun i hi => ?_⟩)
      rw [hm1 25 s (by omega)] at hi
      rw [hx2 _ _ (by omega) (by omega) (by omega) (by omega) (by omega), hm2]
      exact b5 i hi
    · exact Or.inr (Or.inr ⟨by rw [hm1 23 s (by omega)]; exact b1, w, by omega, by rw [hm1 26 s (by omega)]; exact b2, by rw [x0]; exact b3⟩)
  · rw [hx _ _ (by omega) (by omega) (by omega) (by omega), hm1 6 k (by omega)]; exact h3 k q1 q2
  · exact hf
  · rw [hx _ _ (by omega) (by omega) (by omega) (by omega), hm0 48 (by omega)]; exact h5
  · rw [hm0 48 (by omega)]; exact h6
  · rw [hm0 48 (by omega)] at hl
    rw [hx _ _ (by omega) (by omega) (by omega) (by omega), hm1 47 i (by omega)]; exact h7 i hi hl
  · rw [hm1 29 j (by omega)]; exact h9 j hj
theorem pr_eta (p : Int32 × xS) : p = (p.1, p.2) := rfl
theorem riX_p {σ : xS} : riX σ = (riV σ, riS σ) := by
  unfold riV riS
  exact pr_eta _
theorem bgS_oo {σ : xS} {K a b : Nat} (h1 : a ≠ 2) (h2 : a ≠ 3) : ∀ {i : Nat}, (bgS σ K i).1 a b = σ.1 a b
  | 0 => by rw [bgS, xI_n (by omega), xI_n (by omega), xI_n (by omega)]
  | i + 1 => by rw [bgS, xI_n (by omega)]; exact bgS_oo h1 h2
theorem bgS_p {σ : xS} {K : Nat} : ∀ {i : Nat}, (bgS σ K i).1 2 0 = 0 ∧ (bgS σ K i).1 2 1 = 0
  | 0 => ⟨by rw [bgS, xI_n (by omega), xI_n (by omega), xI_s], by rw [bgS, xI_n (by omega), xI_s]⟩
  | i + 1 => ⟨by rw [bgS, xI_n (by omega)]; exact bgS_p.1, by rw [bgS, xI_n (by omega)]; exact bgS_p.2⟩
theorem bgS_3 {σ : xS} {K : Nat} : ∀ {n j : Nat}, j < n → (bgS σ K n).1 3 j = nmA σ K (nI j)
  | n + 1, j, hj => by
    rw [bgS]
    by_cases e : j = n
    · rw [e, xI_s]; rfl
    · rw [xI_n (by omega)]; exact bgS_3 (by omega)
def stT (T0 : xS) : Nat → xS
  | 0 => T0
  | k + 1 => sqN (sqF T0 k).2
def GO (E b N : Nat) (ℓ : Nat → Int32) (S0 T0 : xS) (k : Nat) : Prop := (∃ G' N' a, (a ≤ E ∧ 2 * k ≤ a ∧ N ≤ N') ∧ TA 400 G' N' (ssS S0 k) (stT T0 k).1 ∧ (RdX E ℓ (ssS S0 k) ∧ RdM E b ℓ (stT T0 k)) ∧ (ssS S0 k).1 2 0 = nI a ∧ (stT T0 k).1 0 33 = nI a ∧ (ssS S0 k).1 2 1 = 0) ∧ sqF T0 k = itmM (stT T0 k) ∧ MS T0 (stT T0 k) ∧ (∀ j, j < k → sqE T0 j = false ∧ ssE S0 j = false)
theorem MS_33 {T : xS} {v : Int32} : MS T (xI T 0 33 v) := ⟨fun a c q => xI_n (by omega), fun c q => xI_n (by omega), rfl⟩
theorem MS_37 {T : xS} {v : Int32} : MS T (xI T 0 37 v) := ⟨fun a c q => xI_n (by omega), fun c q => xI_n (by omega), rfl⟩
/-- what an item comes to: it goes on, or it stops there -/
theorem GO_s {E b N k : Nat} {ℓ : Nat → Int32} {S0 T0 : xS} (hE : E ≤ 160) (hb : b ≤ 1120) (h : GO E b N ℓ S0 T0 k) : (GO E b N ℓ S0 T0 (k + 1) ∧ lhM (sqF T0 k).2 = 59 ∧ ∃ c, c < E ∧ (sqF T0 k).2.1 0 33 = nI c ∧ 2 * k ≤ c ∧ RdM E b ℓ (sqF T0 k).2) ∨ (riV (ssS S0 k) = 0 ∧ k ≤ 80 ∧ MS T0 (sqF T0 k).2 ∧ (((sqF T0 k).1 = 0 ∧ (riS (ssS S0 k)).1 2 1 = 0 ∧ (riS (ssS S0 k)).1 2 0 = (sqF T0 k).2.1 0 37) ∨ ((sqF T0 k).1 = 1 ∧ ∃ G' N' c, (2 * k ≤ c ∧ c ≤ E ∧ N ≤ N') ∧ (sqF T0 k).2.1 0 33 = nI c ∧ TA 400 G' N' (riS (ssS S0 k)) (sqF T0 k).2.1 ∧ RdM E b ℓ (sqF T0 k).2 ∧ ((c = E ∧ (riS (ssS S0 k)).1 2 1 = 1) ∨ (c < E ∧ ¬ lhM (sqF T0 k).2 = 59 ∧ (riS (ssS S0 k)).1 2 1 = 0 ∧ (riS (ssS S0 k)).1 2 0 = nI c))))) := by
  obtain ⟨⟨G', N', a, ⟨a1, a2, a3⟩, hA, ⟨hX, hM⟩, hp, hq, h1⟩, hF, hS, hJ⟩ := h
  have hIT := ITEM hE hb a1 hA hX hM hp hq h1
  have hMS : MS T0 (sqF T0 k).2 := by rw [hF]; exact MS_t hS MS_it
  obtain ⟨V, eV⟩ : ∃ V, riV (ssS S0 k) = V := ⟨_, rfl⟩
  obtain ⟨S', eS⟩ : ∃ S', riS (ssS S0 k) = S' := ⟨_, rfl⟩
  have eX : riX (ssS S0 k) = (V, S') := by rw [← eV, ← eS]; exact riX_p
  have eN : ssS S0 (k + 1) = S' := by rw [← ssS_s, eS]
  have eJ : ssE S0 k = decide (V = 0) := by unfold ssE; rw [eV]
  rw [eX, ← hF] at hIT
  rw [eS, eV]
  have q1 : sqF T0 (k + 1) = sq1 (sqF T0 k).2 := sqF_s
  have q2 : stT T0 (k + 1) = sqN (sqF T0 k).2 := rfl
  have q3 : sqE T0 k = decide ((sqF T0 k).1 = 0 ∨ ¬ (sqF T0 k).2.1 0 33 < (sqF T0 k).2.1 0 34) := rfl
  clear hF eX hX hM hp hq h1 hA
  generalize sqF T0 k = R at *
  obtain ⟨R1, U⟩ := R
  unfold ITR at hIT
  dsimp only at hIT hMS q1 q2 q3 ⊢
  rcases hIT with ⟨z1, p, z2, z3, z4, z5⟩ | ⟨z1, G2, N2, c, ⟨c1, c2, c3⟩, z2, z3, ⟨z4, z5⟩, z6⟩
  · exact Or.inr ⟨z3, by omega, hMS, Or.inl ⟨z1, z4, z5.trans z2.symm⟩⟩
  · rcases z6 with ⟨y1, y2, y3⟩ | ⟨y1, y2, y3, y4, y5⟩ | ⟨y1, y2, y3, y4, y5⟩
    · exact Or.inr ⟨y2, by omega, hMS, Or.inr ⟨z1, G2, N2, c, ⟨by omega, c2, by omega⟩, z2, z3, z5, Or.inl ⟨y1, y3⟩⟩⟩
    · have hl : lhM U = 59 := by rw [lhM_c hE hb y1 z5 z2]; exact y2
      have hN0 : ¬ R1 = 0 := by rw [z1]; decide
      have hlt : U.1 0 33 < U.1 0 34 := (lt_33 hE (by omega) z5 z2).mpr y1
      have eT : stT T0 (k + 1) = xI U 0 33 (nI (c + 1)) := by
        rw [q2]
        unfold sqN
        rw [z2, nI_1]
      refine Or.inl ⟨⟨⟨G2, N2, c + 1, ⟨by omega, by omega, by omega⟩, ?_, ⟨?_, ?_⟩, ?_, ?_, ?_⟩, ?_, ?_, fun j hj => ?_⟩, hl, c, y1, z2, by omega, z5⟩
      · rw [eT, eN]
        exact TA_rd kp2_r (rdE_0 rdE_r (by omega)) z3
      · rw [eN]; exact z4
      · rw [eT]; exact RdM_i (by omega) z5
      · rw [eN]; exact y5
      · rw [eT]; exact xI_s
      · rw [eN]; exact y4
      · rw [q1, q2]
        unfold sq1
        rw [if_pos hl]
      · rw [eT]; exact MS_t hMS MS_33
      · by_cases e : j = k
        · subst e
          refine ⟨?_, ?_⟩
          · rw [q3]
            exact decide_eq_false (fun q => q.elim hN0 (fun w => w hlt))
          · rw [eJ, y3]
            decide
        · exact hJ j (by omega)
    · have hl : ¬ lhM U = 59 := by rw [lhM_c hE hb y1 z5 z2]; exact y2
      exact Or.inr ⟨y3, by omega, hMS, Or.inr ⟨z1, G2, N2, c, ⟨by omega, c2, by omega⟩, z2, z3, z5, Or.inr ⟨y1, hl, y4, y5⟩⟩⟩
def STOP (E b N : Nat) (ℓ : Nat → Int32) (S0 T0 : xS) (k : Nat) : Prop := riV (ssS S0 k) = 0 ∧ k ≤ 80 ∧ MS T0 (sqF T0 k).2 ∧ (((sqF T0 k).1 = 0 ∧ (riS (ssS S0 k)).1 2 1 = 0 ∧ (riS (ssS S0 k)).1 2 0 = (sqF T0 k).2.1 0 37) ∨ ((sqF T0 k).1 = 1 ∧ ∃ G' N' c, (2 * k ≤ c ∧ c ≤ E ∧ N ≤ N') ∧ (sqF T0 k).2.1 0 33 = nI c ∧ TA 400 G' N' (riS (ssS S0 k)) (sqF T0 k).2.1 ∧ RdM E b ℓ (sqF T0 k).2 ∧ ((c = E ∧ (riS (ssS S0 k)).1 2 1 = 1) ∨ (c < E ∧ ¬ lhM (sqF T0 k).2 = 59 ∧ (riS (ssS S0 k)).1 2 1 = 0 ∧ (riS (ssS S0 k)).1 2 0 = nI c))))
theorem GO_80 {E b N k : Nat} {ℓ : Nat → Int32} {S0 T0 : xS} (hE : E ≤ 160) (h : GO E b N ℓ S0 T0 k) : k ≤ 80 := by
  obtain ⟨⟨G', N', a, ⟨a1, a2, a3⟩, -⟩, -⟩ := h
  omega
theorem GO_stop {E b N : Nat} {ℓ : Nat → Int32} {S0 T0 : xS} (hE : E ≤ 160) (hb : b ≤ 1120) : ∀ d k, k + d = 81 → GO E b N ℓ S0 T0 k → ∃ n, GO E b N ℓ S0 T0 n ∧ STOP E b N ℓ S0 T0 n
  | 0, k, hk, h => by have := GO_80 hE h; omega
  | d + 1, k, hk, h => by
    rcases GO_s hE hb h with ⟨g, -⟩ | g
    · exact GO_stop hE hb d (k + 1) (by omega) g
    · exact ⟨k, h, g⟩
/-! where it begins -/
theorem st_begin {G N s : Nat} {σ τ : xS} (h : RRn G N σ τ) (hs : s < 8) (h1 : τ.1 23 s = 1) : GO (tn (τ.1 25 s)) (160 * s) N (fun i => (τ.2 27 (160 * s + i)).toInt32) (stB σ (10 + s)) (stq0 τ (nI s)) 0 ∧ tn (τ.1 25 s) ≤ 160 ∧ TA 100 G N (stB σ (10 + s)) (vwM 38 (stq0 τ (nI s))) ∧ (∀ a b, a ≠ 2 → a ≠ 3 → (a < 400 ∨ 430 ≤ a) → (stB σ (10 + s)).1 a b = σ.1 a b) ∧ (∀ a b, a ≠ 400 → (stB σ (10 + s)).2 a b = σ.2 a b) ∧ (∀ a c, a ≠ 38 → (a ≠ 0 ∨ (c ≠ 5 ∧ c < 32) ∨ 34 < c) → (stq0 τ (nI s)).1 a c = τ.1 a c) ∧ (stq0 τ (nI s)).2 = τ.2 ∧ (stq0 τ (nI s)).1 0 5 = -1 := by
  obtain ⟨⟨hG, hN⟩, ⟨c1, c2⟩, ⟨c3, c4⟩⟩ := RRn_G h
  have hSH := h.2.1 s hs
  obtain ⟨-, e4, e5⟩ := sh_row hSH h1
  obtain ⟨m, hm, em⟩ := rle (k := 160) (by omega) hSH.1
  have tm : tn (τ.1 25 s) = m := by rw [em, tn_nI (by omega)]
  have g1 : tn (σ.1 100 1) ≤ 8 := by rw [c1, tn_nI (by omega)]; exact hG
  have g2 : tn (σ.1 100 2) ≤ 6 := by rw [c3, tn_nI (by omega)]; exact hN
  have cp : ∀ a b, (a < 400 ∨ 430 ≤ a) → (cpT 400 100 σ).1 a b = σ.1 a b := fun a b q => cpT_o g2 g1 (by omega)
  have cp2 : ∀ a b, a ≠ 400 → (cpT 400 100 σ).2 a b = σ.2 a b := fun a b q => by rw [cpT_2, xJ_ne _ _ _ q]
  have hK : (cpT 400 100 σ).1 (10 + s) 1 = nI m := by rw [cp _ _ (by omega), e4, em]
  have eB : stB σ (10 + s) = bgS (cpT 400 100 σ) (10 + s) m := by unfold stB; rw [hK, tn_nI (by omega), Nat.min_eq_left hm]
  have A4 : TA 400 G N (cpT 400 100 σ) τ.1 := TA_cp (by omega) h.1
  have x1 : ∀ a b, a ≠ 2 → a ≠ 3 → (a < 400 ∨ 430 ≤ a) → (stB σ (10 + s)).1 a b = σ.1 a b := fun a b q1 q2 q3 => by rw [eB, bgS_oo q1 q2, cp a b q3]
  have x2 : ∀ a b, a ≠ 400 → (stB σ (10 + s)).2 a b = σ.2 a b := fun a b q => by rw [eB, bgS_2, cp2 a b q]
  have x3 : ∀ i, i < m → (stB σ (10 + s)).1 3 i = (τ.2 27 (160 * s + i)).toInt32 := fun i hi => by
    rw [eB, bgS_3 hi]
    have en : nmA (cpT 400 100 σ) (10 + s) (nI i) = nmA σ (10 + s) (nI i) := by
      unfold nmA
      rw [cp _ _ (by omega), cp2 _ _ (by omega)]
    rw [en, nm_in hs hSH h1 (by rw [tm]; exact hi)]
    unfold inM
    rw [show (160 : Int32) = nI 160 from rfl, pk_mul, nI_add, tn_nI (by omega)]
  have p0 : (stB σ (10 + s)).1 2 0 = nI 0 ∧ (stB σ (10 + s)).1 2 1 = 0 ∧ (stB σ (10 + s)).1 2 2 = nI m := by rw [eB]; exact ⟨bgS_p.1, bgS_p.2, bgS_s.trans hK⟩
  have B0 : TA 400 G N (stB σ (10 + s)) τ.1 := TA_c (fun a b q1 q2 => by rw [eB, bgS_oo (by omega) (by omega)]) (by rw [eB, bgS_2]) A4
  have B4 : TA 100 G N (stB σ (10 + s)) (vwM 38 (savM 38 τ)) := TA_c (fun a b q1 q2 => x1 a b (by omega) (by omega) (by omega)) (x2 _ _ (by omega)) (img_TAs h.1)
  have y1 : ∀ a c, a ≠ 38 → (a ≠ 0 ∨ (c ≠ 5 ∧ c < 32) ∨ 34 < c) → (stq0 τ (nI s)).1 a c = τ.1 a c := fun a c q1 q2 => by
    unfold stq0
    rw [xI_n (by omega), xI_n (by omega), xI_n (by omega), xI_n (by omega), savM_o q1]
  have y38 : ∀ c, (stq0 τ (nI s)).1 38 c = (savM 38 τ).1 38 c := fun c => by
    unfold stq0
    rw [xI_n (by omega), xI_n (by omega), xI_n (by omega), xI_n (by omega)]
  have y2 : (stq0 τ (nI s)).2 = τ.2 := rfl
  have q32 : (stq0 τ (nI s)).1 0 32 = nI (160 * s) := by
    unfold stq0
    rw [xI_n (by omega), xI_n (by omega), xI_n (by omega), xI_s, show (160 : Int32) = nI 160 from rfl, pk_mul]
  have q33 : (stq0 τ (nI s)).1 0 33 = nI 0 := by unfold stq0; rw [xI_n (by omega), xI_n (by omega), xI_s]; rfl
  have q34 : (stq0 τ (nI s)).1 0 34 = nI m := by unfold stq0; rw [xI_n (by omega), xI_s, tn_nI (by omega), em]
  have q5 : (stq0 τ (nI s)).1 0 5 = -1 := by unfold stq0; rw [xI_s]
  rw [tm]
  generalize stB σ (10 + s) = S0 at *
  generalize stq0 τ (nI s) = T0 at *
  refine ⟨⟨⟨G, N, 0, ⟨Nat.zero_le _, Nat.le_refl _, Nat.le_refl _⟩, ?_, ⟨⟨p0.2.2, x3⟩, q34, q32, fun i hi => by show (T0.2 27 (160 * s + i)).toInt32 = (τ.2 27 (160 * s + i)).toInt32; rw [y2]⟩, p0.1, q33, p0.2.1⟩, rfl, MS_r, fun j hj => absurd hj (Nat.not_lt_zero _)⟩, hm, ?_, x1, x2, y1, y2, q5⟩
  · exact TA_v (fun c q => y1 0 c (by omega) (by omega)) (fun a c q1 q2 => y1 a c (by omega) (by omega)) (fun a w q1 q2 q3 => y1 a w (by omega) (by omega)) B0
  · exact TA_v (fun c q => vwM_e y38) (fun a c q1 q2 => vwM_e y38) (fun a w q1 q2 q3 => vwM_e y38) B4
theorem noX_p {G N : Nat} {σ τ : xS} (h : RRn G N σ τ) : OKp (noX σ (-6)) (noM τ (-6)) := no_p rk6 h
theorem ok_streets {G N : Nat} {σ τ : xS} (h : RRn G N σ τ) (s : Int32) : OKp (strsX σ s) (strtM τ s) := by
  unfold strsX strtM
  by_cases hs : 0 ≤ s ∧ s < 8
  · obtain ⟨s', hs', rfl⟩ := rgl (n := 8) (by omega) hs
    rw [if_pos hs, wt_eq h hs', tn_nI (i := s') (by omega)]
    by_cases hw : wnr σ (10 + s') = 0
    · rw [if_pos hw, if_neg (not_not_intro hw)]
      have h1 := wnr_1 h hs' hw
      obtain ⟨g0, hE, A4, x1, x2, y1, y2, y5⟩ := st_begin h hs' h1
      obtain ⟨n, gn, gs⟩ := GO_stop hE (show 160 * s' ≤ 1120 by omega) 81 0 rfl g0
      obtain ⟨⟨hG, hN⟩, ⟨c1, c2⟩, ⟨c3, c4⟩⟩ := RRn_G h
      have hCT : CTX (stB σ (10 + s')) := by
        unfold CTX
        rw [stB_4 (by omega), stB_4 (by omega), c1, c3]
        exact ⟨⟨nI_pos' (by omega), nI_le (b := 8) hG (by omega)⟩, nI_pos' (by omega), nI_le (b := 6) hN (by omega)⟩
      generalize stB σ (10 + s') = S0 at *
      generalize stq0 τ (nI s') = T0 at *
      obtain ⟨s1, s2, s3, s4⟩ := gs
      have hKI := (KI_ss hCT (n + 1)).1
      rw [← ssS_s] at hKI
      have eN : ssN S0 = n := xfs_at (by omega) (by unfold ssE; exact decide_eq_true s1) (fun j hj => (gn.2.2.2 j hj).2)
      have eZ : ssZ S0 (ssN S0) = riS (ssS S0 n) := by unfold ssZ; rw [eN, if_pos (by omega), ← ssS_s]
      rw [eZ, eN]
      unfold stZ
      generalize riS (ssS S0 n) = E' at *
      -- a fault: all as it was
      have FAIL : ∀ U, MS T0 U → E'.1 2 0 = U.1 0 37 → RRn G N (xI E' 0 10 (E'.1 2 0)) (xI (lodM 38 U) 0 5 (U.1 0 37)) := fun U hU hp => by
        have B4 : TA 100 G N E' (vwM 38 U) := TA_v (fun c q => vwM_e (fun b => hU.1 38 b (by omega))) (fun a c q1 q2 => vwM_e (fun b => hU.1 38 b (by omega))) (fun a w q1 q2 q3 => vwM_e (fun b => hU.1 38 b (by omega))) (TA_c (fun a b q1 q2 => hKI.1 a b (by omega) (by omega) (by omega)) (hKI.2.1 _ _ (by omega)) A4)
        have B1 := lod_TAs B4
        refine RRn_tf h (TA_v (fun c q => xI_n (by omega)) (fun a c q1 q2 => xI_n (by omega)) (fun a w q1 q2 q3 => xI_n (by omega)) (TA_c (σ := E') (fun a b q1 q2 => xI_n (by omega)) rfl B1)) (Nat.le_refl _) (fun a b q q2 q3 q4 => ?_) (fun a b q1 q2 q3 q4 q5 => ?_) ?_ (fun c q => ?_) (fun a c q => ?_) (fun c => ?_)
        · rw [xI_n (by omega), hKI.1 a b (by omega) (by omega) (by omega), x1 a b (by omega) (by omega) (by omega)]
        · show E'.2 a b = _
          rw [hKI.2.1 a b (by omega), x2 a b (by omega)]
        · rw [xI_s, xI_s]; exact hp
        · rw [xI_n (by omega), lodM_o (by omega), hU.2.1 c (by omega), y1 0 c (by omega) (by omega)]
        · rw [xI_n (by omega), lodM_o (by omega), hU.1 a c (by omega), y1 a c (by omega) (by omega)]
        · show U.2 27 c = _
          rw [hU.2.2, y2]
      rcases s4 with ⟨z1, z2, z3⟩ | ⟨z1, G2, N2, c, ⟨d1, d2, d3⟩, z2, z3, z4, z5⟩
      · rw [if_pos z2, sqR_at (i := n) (by omega) (by unfold sqE; exact decide_eq_true (Or.inl z1)) (fun j hj => (gn.2.2.2 j hj).1)]
        unfold sqZ
        rw [if_pos z1]
        exact noX_p (FAIL _ s3 z3)
      · have hn0 : ¬ (sqF T0 n).1 = 0 := by rw [z1]; decide
        rcases z5 with ⟨w1, w2⟩ | ⟨w1, w2, w3, w4⟩
        · have hnl : ¬ (sqF T0 n).2.1 0 33 < (sqF T0 n).2.1 0 34 := fun q => by
            have := (lt_33 hE (by omega) z4 z2).mp q
            omega
          rw [if_neg (by rw [w2]; decide), sqR_at (i := n) (by omega) (by unfold sqE; exact decide_eq_true (Or.inr hnl)) (fun j hj => (gn.2.2.2 j hj).1)]
          unfold sqZ
          rw [if_neg hn0]
          refine OKp_2 rfl ⟨G2, N2, ?_⟩
          generalize (sqF T0 n).2 = U at *
          have hG2 := z3.1.2.1.1
          have hN2 := z3.1.2.1.2.1
          have g1 : tn (E'.1 400 1) ≤ 8 := by rw [z3.1.1.1.1, tn_nI (by omega)]; exact hG2
          have g2 : tn (E'.1 400 2) ≤ 6 := by rw [z3.1.1.1.2, tn_nI (by omega)]; exact hN2
          have B1 : TA 100 G2 N2 (cpT 100 400 E') U.1 := TA_cp (by omega) z3
          refine RRn_tf h (TA_c (σ := cpT 100 400 E') (fun a b q1 q2 => xI_n (by omega)) rfl B1) d3 (fun a b q q2 q3 q4 => ?_) (fun a b q1 q2 q3 q4 q5 => ?_) ?_ (fun c q => ?_) (fun a c q => ?_) (fun c => ?_)
          · rw [xI_n (by omega), cpT_o g2 g1 (by omega), hKI.1 a b (by omega) (by omega) (by omega), x1 a b (by omega) (by omega) (by omega)]
          · show (cpT 100 400 E').2 a b = _
            rw [cpT_2, xJ_ne _ _ _ q1, hKI.2.1 a b (by omega), x2 a b (by omega)]
          · rw [xI_s, s3.2.1 5 (by omega), y5]
          · rw [s3.2.1 c (by omega), y1 0 c (by omega) (by omega)]
          · rw [s3.1 a c (by omega), y1 a c (by omega) (by omega)]
          · rw [s3.2.2, y2]
        · have hlt : (sqF T0 n).2.1 0 33 < (sqF T0 n).2.1 0 34 := (lt_33 hE (by omega) z4 z2).mpr w1
          have en : sqF T0 (n + 1) = (0, xI (sqF T0 n).2 0 37 ((sqF T0 n).2.1 0 33)) := by rw [sqF_s]; unfold sq1; rw [if_neg w2]
          rw [if_pos w3, sqR_at (i := n + 1) (by omega) (by unfold sqE; rw [en]; exact decide_eq_true (Or.inl rfl)) (fun j hj => ?_)]
          · unfold sqZ
            rw [en, if_pos rfl]
            exact noX_p (FAIL _ (MS_t s3 MS_37) (by rw [xI_s, z2]; exact w4))
          · by_cases e : j = n
            · subst e
              unfold sqE
              exact decide_eq_false (fun q => q.elim hn0 (fun w => w hlt))
            · exact (gn.2.2.2 j (by omega)).1
    · rw [if_neg hw, if_pos hw]
      obtain ⟨k, hk⟩ := wnr_k hw
      exact no_p hk h
  · have e : wtM τ s = -1 := by unfold wtM; rw [if_pos hs]
    rw [if_neg hs, e, if_pos (by decide)]
    exact no_p rk1 h
/-! what the reference's own reading rests on -/
theorem itP_of {E b G N a : Nat} {ℓ : Nat → Int32} {S T : xS} (hE : E ≤ 160) (hb : b ≤ 1120) (ha : a ≤ E) (hA : TA 400 G N S T.1) (hM : RdM E b ℓ T) (hq : T.1 0 33 = nI a) (hW : WD T) : itP T := by
  have hG := hA.1.2.1.1
  have hN := hA.1.2.1.2.1
  refine ⟨⟨⟨⟨by rw [hM.2.1]; exact nI_pos' (by omega), by rw [hM.2.1]; exact nI_le (b := 1120) hb (by omega)⟩, by rw [hq]; exact nI_pos' (by omega), by rw [hq, hM.1]; exact nI_le ha (by omega), by rw [hM.1]; exact nI_le (b := 160) hE (by omega)⟩, hW⟩, ⟨by rw [hA.1.2.1.2.2.2]; exact nI_pos' (by omega), by rw [hA.1.2.1.2.2.2]; exact nI_le (b := 6) hN (by omega)⟩, ⟨by rw [hA.1.2.1.2.2.1]; exact nI_pos' (by omega), by rw [hA.1.2.1.2.2.1]; exact nI_le (b := 8) hG (by omega)⟩, fun τ' hτ => ?_⟩
  have := TA_rd kp2_r hτ hA
  exact WF_BOK this.1.1 this.1.2
theorem MS_WD {T T' : xS} (h : MS T T') (hW : WD T) : WD T' := fun j hj => (h.1 29 j (by omega)).trans (hW j hj)
theorem SQP_ok {E b N : Nat} {ℓ : Nat → Int32} {S0 T0 : xS} (hE : E ≤ 160) (hb : b ≤ 1120) (h : GO E b N ℓ S0 T0 0) (hW : WD T0) : SQP T0 := by
  have gT : ∀ k, GO E b N ℓ S0 T0 k → itP (stT T0 k) := fun k g => by
    obtain ⟨⟨G', N', a, ⟨a1, a2, a3⟩, hA, ⟨hX, hM⟩, hp, hq, h1⟩, hF, hS, hJ⟩ := g
    exact itP_of hE hb a1 hA hM hq (MS_WD hS hW)
  have step : ∀ i, (∀ j, j < i → sqE T0 j = false) → ¬ (sqF T0 i).1 = 0 → GO E b N ℓ S0 T0 i := fun i => by
    induction i with
    | zero => exact fun _ _ => h
    | succ i ih =>
      intro hJ hz
      have hi := of_decide_eq_false (hJ i (by omega))
      have hi0 : ¬ (sqF T0 i).1 = 0 := fun q => hi (Or.inl q)
      have g := ih (fun j hj => hJ j (by omega)) hi0
      rcases GO_s hE hb g with ⟨g2, -⟩ | ⟨-, -, -, s4⟩
      · exact g2
      · exfalso
        rcases s4 with ⟨z1, -⟩ | ⟨z1, G2, N2, c, ⟨d1, d2, d3⟩, z2, z3, z4, z5⟩
        · exact hi0 z1
        · rcases z5 with ⟨w1, -⟩ | ⟨w1, w2, -⟩
          · refine hi (Or.inr (fun q => ?_))
            have := (lt_33 hE (by omega) z4 z2).mp q
            omega
          · refine hz ?_
            rw [sqF_s]
            unfold sq1
            rw [if_neg w2]
  refine ⟨gT 0 h, fun i hJ hz => ?_⟩
  have g := step i hJ hz
  have rd : ∀ c, c ≤ E → (sqF T0 i).2.1 0 33 = nI c → RdM E b ℓ (sqF T0 i).2 → rdP (sqF T0 i).2 := fun c hc hq hM => ⟨⟨by rw [hM.2.1]; exact nI_pos' (by omega), by rw [hM.2.1]; exact nI_le (b := 1120) hb (by omega)⟩, by rw [hq]; exact nI_pos' (by omega), by rw [hq, hM.1]; exact nI_le hc (by omega), by rw [hM.1]; exact nI_le (b := 160) hE (by omega)⟩
  rcases GO_s hE hb g with ⟨g2, hl, c, c1, c2, c3, c4⟩ | ⟨s1, s2, s3, s4⟩
  · exact ⟨⟨rd c (by omega) c2 c4, by rw [c2]; exact nI_le (by omega) (by omega)⟩, fun _ _ => gT (i + 1) g2⟩
  · rcases s4 with ⟨z1, -⟩ | ⟨z1, G2, N2, c, ⟨d1, d2, d3⟩, z2, z3, z4, z5⟩
    · exact absurd z1 hz
    · refine ⟨⟨rd c d2 z2 z4, by rw [z2]; exact nI_le (by omega) (by omega)⟩, fun hlt hl => ?_⟩
      rcases z5 with ⟨w1, -⟩ | ⟨w1, w2, -⟩
      · have := (lt_33 hE (by omega) z4 z2).mp hlt
        omega
      · exact absurd hl w2
