/-! the readers, side by side: what an item tells -/
theorem TA_rd {G N : Nat} {S S' T T' : xS} (hk : kp2 S S') (hE : rdE T T') (h : TA 400 G N S T.1) : TA 400 G N S' T'.1 := TA_v (fun c q => hE.2.1 c (by omega)) (fun a c q1 q2 => hE.1 a c (by omega) (by omega) (by omega)) (fun a w q1 q2 q3 => hE.1 a w (by omega) (by omega) (by omega)) (TA_c (fun a b q1 q2 => hk.1 a b (by omega)) (by rw [hk.2.2]) h)
theorem RdX_o {E : Nat} {ℓ : Nat → Int32} {S S' : xS} (h2 : ∀ b, S'.1 2 b = S.1 2 b) (h3 : ∀ b, S'.1 3 b = S.1 3 b) (h : RdX E ℓ S) : RdX E ℓ S' := ⟨(h2 2).trans h.1, fun i hi => (h3 i).trans (h.2 i hi)⟩
def BO (E b : Nat) (ℓ : Nat → Int32) (N a : Nat) (V : Int32) (S' : xS) (R : Int32 × xS) : Prop := (R.1 = 0 ∧ ∃ p, R.2.1 0 37 = nI p ∧ ((V = 0 ∧ S'.1 2 0 = nI p) ∨ (V = 1 ∧ S'.1 2 0 = nI p ∧ RdX E ℓ S' ∧ p < E ∧ ¬ lC E ℓ p = 59))) ∨ (R.1 = 1 ∧ ∃ G' N' c, (a < c ∧ c ≤ E ∧ N ≤ N') ∧ V = 1 ∧ S'.1 2 0 = nI c ∧ R.2.1 0 33 = nI c ∧ (RdX E ℓ S' ∧ RdM E b ℓ R.2) ∧ TA 400 G' N' S' R.2.1)
theorem BO_f {E b N a p : Nat} {ℓ : Nat → Int32} {V : Int32} {S' : xS} {R : Int32 × xS} (h1 : R.1 = 0) (h2 : R.2.1 0 37 = nI p) (h3 : V = 0) (h4 : S'.1 2 0 = nI p) : BO E b ℓ N a V S' R := Or.inl ⟨h1, p, h2, Or.inl ⟨h3, h4⟩⟩
theorem itY_0 {A : Int32 × xS} {k : Int32} (h : A.1 = 0) : itY A k = (0, A.2) := by unfold itY; rw [if_pos h]
theorem itY_1 {A : Int32 × xS} {k : Int32} (h : A.1 = 1) : itY A k = itZ A.2 k := by unfold itY; rw [if_neg (by rw [h]; decide)]
theorem nuF_1 {T : xS} {k : Int32} : nuF T k 1 = nuG (1, T) k 0 := rfl
theorem nn1 {n : Nat} (h : n < 100) : ¬ nI n = -1 := nm1_nI (by omega)
theorem body_wall {E b G N a : Nat} {ℓ : Nat → Int32} {S T : xS} (hE : E ≤ 160) (hb : b ≤ 1120) (hA : TA 400 G N S T.1) (hX : RdX E ℓ S) (hM : RdM E b ℓ T) (hp : S.1 2 0 = nI a) (hq : T.1 0 33 = nI (a + 1)) (h32 : lC E ℓ a = 32) : BO E b ℓ N a (rlV S) (rlS S) (itY (nuF T 1 1) 1) := by
  have ha := lC_lt h32 (by decide)
  have dE : rdE T (nuF T 1 1).2 := nuF_e rdE_r
  have hn := N2 (i := 0) (k := 1) (lo := 0) (hi := 48) (X := fun n => itM T (nI n) = false) (F := (1, T)) hE hb (by omega) hX hp hM rfl (Or.inl ⟨rfl, h32, hq⟩) (fun U n hU hn he => by
    have ei : itM U (nI n) = itM T (nI n) := by
      unfold itM
      rw [hU.2.1 1 (by omega)]
      exact xany_congr (fun i _ => by unfold tkP; rw [hU.1 13 i (by omega) (by omega) (by omega)])
    unfold soM
    rw [if_neg (by decide), if_pos rfl, decide_eq_true_iff, he, ei]
    exact ⟨fun q => ⟨⟨nI_pos' (by omega), q.1⟩, q.2⟩, fun q => ⟨q.1.2, q.2⟩⟩)
  rw [nuF_1] at *
  rcases hn with ⟨f1, p, f2, f3⟩ | ⟨f1, n, c, g1, g2, g3, g4, g5, g6, g7, g8, g9, g10⟩
  · rw [itY_0 f1]
    rcases f3 with ⟨h1, h2⟩ | ⟨n, h1, h2, h3, h4, h5⟩
    · exact BO_f rfl f2 (by unfold rlV; rw [if_pos (Or.inl h1)]) (by unfold rlS; rw [if_pos h1]; exact h2)
    · have ht : atR S (nI n) = true := by
        rw [atR_eq hA]
        cases e : itM T (nI n) with
        | true => rfl
        | false => exact absurd e h4
      exact BO_f rfl f2 (by unfold rlV; rw [if_pos (Or.inr (by rw [h3]; exact ht))]) (by unfold rlS; rw [h3, if_neg (nn1 h1), if_pos ht, xI_s]; exact h5)
  · rw [itY_1 f1]
    have g4 : itM T (nI n) = false := g4
    have hn48 : n ≤ 48 := by have := (nI_leI (a := n) (b := 48) (by omega) (by omega)).mp g2.2; exact this
    have ht : ¬ atR S (nI n) = true := by rw [atR_eq hA, g4]; decide
    have eZ : itZ (nuG (1, T) 1 0).2 1 = (1, xI (nuG (1, T) 1 0).2 10 n 1) := by
      unfold itZ
      rw [if_neg (by decide), if_pos rfl, g8, tn_nI (by omega)]
    have eS : rlS S = xJ (rnS S 0 48) 400 0 (xwp_put ((rnS S 0 48).2 400 0) (nI n) (nI 1)) := by
      unfold rlS
      rw [g3, if_neg (nn1 g1), if_neg ht, rnS_2]; rfl
    rw [eZ, eS]
    refine Or.inr ⟨rfl, G, N, c, ⟨g6.1, g6.2, Nat.le_refl _⟩, ?_, g5, by rw [xI_n (by omega)]; exact g7, ⟨RdX_o (S := rnS S 0 48) (fun _ => rfl) (fun _ => rfl) (RdX_k rnS_k hX), RdM_i (by omega) g9⟩, TA_wall (TA_rd rnS_k dE hA) (by omega) 1 (by omega)⟩
    unfold rlV
    rw [g3, if_neg (fun q => q.elim (nn1 g1) ht)]
theorem body_open {E b G N a : Nat} {ℓ : Nat → Int32} {S T : xS} (hE : E ≤ 160) (hb : b ≤ 1120) (hA : TA 400 G N S T.1) (hX : RdX E ℓ S) (hM : RdM E b ℓ T) (hp : S.1 2 0 = nI a) (hq : T.1 0 33 = nI (a + 1)) (h32 : lC E ℓ a = 32) : BO E b ℓ N a (roV S) (roS S) (itY (nuF T 2 1) 2) := by
  have ha := lC_lt h32 (by decide)
  have dE : rdE T (nuF T 2 1).2 := nuF_e rdE_r
  have hn := N2 (i := 0) (k := 2) (lo := 0) (hi := 48) (X := fun _ => True) (F := (1, T)) hE hb (by omega) hX hp hM rfl (Or.inl ⟨rfl, h32, hq⟩) (fun U n hU hn he => by
    unfold soM
    rw [if_neg (by decide), if_neg (by decide), if_pos rfl, decide_eq_true_iff, he]
    exact ⟨fun q => ⟨⟨nI_pos' (by omega), q⟩, trivial⟩, fun q => q.1.2⟩)
  rw [nuF_1] at *
  rcases hn with ⟨f1, p, f2, f3⟩ | ⟨f1, n, c, g1, g2, g3, g4, g5, g6, g7, g8, g9, g10⟩
  · rw [itY_0 f1]
    rcases f3 with ⟨h1, h2⟩ | ⟨n, h1, h2, h3, h4, h5⟩
    · exact BO_f rfl f2 (by unfold roV; rw [if_pos h1]) (by unfold roS; rw [if_pos h1]; exact h2)
    · exact absurd trivial h4
  · rw [itY_1 f1]
    have hn48 : n ≤ 48 := by have := (nI_leI (a := n) (b := 48) (by omega) (by omega)).mp g2.2; exact this
    have eZ : itZ (nuG (1, T) 2 0).2 2 = (1, xI (nuG (1, T) 2 0).2 10 n (nI 0)) := by
      unfold itZ
      rw [if_neg (by decide), if_neg (by decide), if_pos rfl, g8, tn_nI (by omega)]; rfl
    have eS : roS S = xJ (rnS S 0 48) 400 0 (xwp_put ((rnS S 0 48).2 400 0) (nI n) (nI 0)) := by
      unfold roS
      rw [g3, if_neg (nn1 g1), rnS_2]; rfl
    rw [eZ, eS]
    refine Or.inr ⟨rfl, G, N, c, ⟨g6.1, g6.2, Nat.le_refl _⟩, ?_, g5, by rw [xI_n (by omega)]; exact g7, ⟨RdX_o (S := rnS S 0 48) (fun _ => rfl) (fun _ => rfl) (RdX_k rnS_k hX), RdM_i (by omega) g9⟩, TA_wall (TA_rd rnS_k dE hA) (by omega) 0 (by omega)⟩
    unfold roV
    rw [g3, if_neg (nn1 g1)]
theorem gbs_2 {n : Int32} {S : xS} {a c : Nat} (h : a < 100) : (gbsX 400 n S).1 a c = S.1 a c := by
  unfold gbsX
  rw [xI_n (by omega), xI_n (by omega), gbX_o (fun j => by omega)]
theorem goes_33 {n : Int32} {T : xS} {c : Nat} (h : c ≠ 2 ∧ c ≠ 3) : (goesM T n).1 0 c = T.1 0 c := by
  unfold goesM
  rw [xI_n (by omega), xI_n (by omega), gbM_o (by omega)]
theorem body_beat {E b G N a : Nat} {ℓ : Nat → Int32} {S T : xS} (hE : E ≤ 160) (hb : b ≤ 1120) (hA : TA 400 G N S T.1) (hX : RdX E ℓ S) (hM : RdM E b ℓ T) (hp : S.1 2 0 = nI a) (hq : T.1 0 33 = nI (a + 1)) (h32 : lC E ℓ a = 32) : BO E b ℓ N a (rbV S) (rbS S) (itY (nuF T 4 1) 4) := by
  have ha := lC_lt h32 (by decide)
  have dE : rdE T (nuF T 4 1).2 := nuF_e rdE_r
  have hn := N2 (i := 0) (k := 4) (lo := 1) (hi := 99) (X := fun _ => True) (F := (1, T)) hE hb (by omega) hX hp hM rfl (Or.inl ⟨rfl, h32, hq⟩) (fun U n hU hn he => by
    unfold soM
    rw [if_neg (by decide), if_neg (by decide), if_neg (by decide), if_neg (by decide), decide_eq_true_iff, he]
    exact ⟨fun q => ⟨⟨q, nI_le (b := 99) (by omega) (by omega)⟩, trivial⟩, fun q => q.1.1⟩)
  rw [nuF_1] at *
  rcases hn with ⟨f1, p, f2, f3⟩ | ⟨f1, n, c, g1, g2, g3, g4, g5, g6, g7, g8, g9, g10⟩
  · rw [itY_0 f1]
    rcases f3 with ⟨h1, h2⟩ | ⟨n, h1, h2, h3, h4, h5⟩
    · exact BO_f rfl f2 (by unfold rbV; rw [if_pos h1]) (by unfold rbS; rw [if_pos h1]; exact h2)
    · exact absurd trivial h4
  · rw [itY_1 f1]
    have eZ : itZ (nuG (1, T) 4 0).2 4 = (1, goesM (nuG (1, T) 4 0).2 (nI n)) := by
      unfold itZ
      rw [if_neg (by decide), if_neg (by decide), if_neg (by decide), if_neg (by decide), g8]
    have eS : rbS S = gbsX 400 (nI n) (rnS S 1 99) := by
      unfold rbS
      rw [g3, if_neg (nn1 g1)]
    rw [eZ, eS]
    have X2 := RdX_k (E := E) (ℓ := ℓ) (rnS_k (σ := S) (a := 1) (b := 99)) hX
    refine Or.inr ⟨rfl, G, N, c, ⟨g6.1, g6.2, Nat.le_refl _⟩, ?_, by rw [gbs_2 (by omega)]; exact g5, by show (goesM _ _).1 0 33 = _; rw [goes_33 (by omega)]; exact g7, ⟨RdX_o (fun b => gbs_2 (by omega)) (fun b => gbs_2 (by omega)) X2, RdM_v (goes_33 (by omega)) (goes_33 (by omega)) (by unfold goesM; show (gbM _ _).2 = _; rw [gbM_2]) g9⟩, (TA_beats (TA_rd rnS_k dE hA) (nI n)).1⟩
    unfold rbV
    rw [g3, if_neg (nn1 g1)]
theorem TA_add {B G N : Nat} {σ τ : xS} (hA : TA B G N σ τ.1) (hN : N < 6) {k p d g : Nat} {a : Int32} (hk : k < 7) (hp : p < 49) (hd : d < 4) (hg : g < G) : TA B G (N + 1) (addW σ B (B + 20 + N) (nI k) (nI p) (nI d) (nI g) a) (adM τ (nI k) (nI p) (nI d) (nI g) a).1 := by
  obtain ⟨⟨hT, hW⟩, hC, hh⟩ := hA
  have c4 : τ.1 0 1 = nI N := hW.1.2.2.2
  obtain ⟨a1, a2⟩ := TW_add hT hW hN (a := a) hk hp hd hg
  have hxo : ∀ c b, c ≠ B + 20 + N → (c ≠ B ∨ b ≠ 2) → (addW σ B (B + 20 + N) (nI k) (nI p) (nI d) (nI g) a).1 c b = σ.1 c b := fun c b q q2 => addW_o q q2
  have hmo : ∀ c b, ((c < 11 ∨ 17 < c) ∨ b ≠ N) → (c ≠ 0 ∨ b ≠ 1) → (adM τ (nI k) (nI p) (nI d) (nI g) a).1 c b = τ.1 c b := fun c b q q2 => adM_o (by rw [c4, tn_nI (by omega)]; exact q) q2
  refine ⟨⟨a1, a2⟩, ⟨?_, ?_, ?_⟩, hh⟩
  · rw [hxo _ _ (by omega) (by omega), hmo _ _ (by omega) (by omega)]; exact hC.1
  · rw [hxo _ _ (by omega) (by omega), hmo _ _ (by omega) (by omega)]; exact hC.2.1
  · rw [hxo _ _ (by omega) (by omega), hmo _ _ (by omega) (by omega)]; exact hC.2.2
/-! a walker: five numbers -/
theorem so3_0 {U : xS} : soM U 3 (nI 0) = decide (U.1 0 35 ≤ 6) := by show soM U 3 0 = _; unfold soM; rw [if_neg (by decide), if_neg (by decide), if_neg (by decide), if_pos rfl, if_pos rfl]
theorem so3_1 {U : xS} : soM U 3 (nI 1) = decide (U.1 0 35 ≤ 48 ∧ U.1 10 (tn (U.1 0 35)) = 0) := by show soM U 3 1 = _; unfold soM; rw [if_neg (by decide), if_neg (by decide), if_neg (by decide), if_pos rfl, if_neg (by decide), if_pos rfl]
theorem so3_2 {U : xS} : soM U 3 (nI 2) = decide (U.1 0 35 ≤ 3) := by show soM U 3 2 = _; unfold soM; rw [if_neg (by decide), if_neg (by decide), if_neg (by decide), if_pos rfl, if_neg (by decide), if_neg (by decide), if_pos rfl]
theorem so3_3 {U : xS} : soM U 3 (nI 3) = decide (U.1 0 35 < U.1 0 0) := by show soM U 3 3 = _; unfold soM; rw [if_neg (by decide), if_neg (by decide), if_neg (by decide), if_pos rfl, if_neg (by decide), if_neg (by decide), if_neg (by decide), if_pos rfl]
theorem so3_4 {U : xS} : soM U 3 (nI 4) = decide (U.1 0 35 ≤ 9) := by show soM U 3 4 = _; unfold soM; rw [if_neg (by decide), if_neg (by decide), if_neg (by decide), if_pos rfl, if_neg (by decide), if_neg (by decide), if_neg (by decide), if_neg (by decide)]
theorem gt_pr : ∀ G, G < 9 → ∀ n, n < 100 → (nI n < nI G ↔ (0 ≤ nI n ∧ nI n ≤ nI G - 1)) := by decide +kernel
theorem wkc_0 {σ : xS}  (h0 : rnV σ 0 6 = -1) : wkV σ = 0 ∧ wkS σ = wk1 σ := ⟨if_pos h0, if_pos h0⟩
theorem wkc_1 {σ : xS} (h0 : ¬ (rnV σ 0 6 = -1)) (h1 : rnV (wk1 σ) 0 48 = -1) : wkV σ = 0 ∧ wkS σ = wk2 σ := ⟨(if_neg h0).trans (if_pos h1), (if_neg h0).trans (if_pos h1)⟩
theorem wkc_2 {σ : xS} (h0 : ¬ (rnV σ 0 6 = -1)) (h1 : ¬ (rnV (wk1 σ) 0 48 = -1)) (h2 : xlushr (σ.2 400 0) (rnV (wk1 σ) 0 48) &&& 1 = 1) : wkV σ = 0 ∧ wkS σ = xI (wk2 σ) 2 0 ((wk2 σ).1 2 3) := ⟨(if_neg h0).trans ((if_neg h1).trans (if_pos h2)), (if_neg h0).trans ((if_neg h1).trans (if_pos h2))⟩
theorem wkc_3 {σ : xS} (h0 : ¬ (rnV σ 0 6 = -1)) (h1 : ¬ (rnV (wk1 σ) 0 48 = -1)) (h2 : ¬ (xlushr (σ.2 400 0) (rnV (wk1 σ) 0 48) &&& 1 = 1)) (h3 : rnV (wk2 σ) 0 3 = -1) : wkV σ = 0 ∧ wkS σ = wk3 σ := ⟨(if_neg h0).trans ((if_neg h1).trans ((if_neg h2).trans (if_pos h3))), (if_neg h0).trans ((if_neg h1).trans ((if_neg h2).trans (if_pos h3)))⟩
theorem wkc_4 {σ : xS} (h0 : ¬ (rnV σ 0 6 = -1)) (h1 : ¬ (rnV (wk1 σ) 0 48 = -1)) (h2 : ¬ (xlushr (σ.2 400 0) (rnV (wk1 σ) 0 48) &&& 1 = 1)) (h3 : ¬ (rnV (wk2 σ) 0 3 = -1)) (h4 : rnV (wk3 σ) 0 (σ.1 400 1 - 1) = -1) : wkV σ = 0 ∧ wkS σ = wk4 σ := ⟨(if_neg h0).trans ((if_neg h1).trans ((if_neg h2).trans ((if_neg h3).trans (if_pos h4)))), (if_neg h0).trans ((if_neg h1).trans ((if_neg h2).trans ((if_neg h3).trans (if_pos h4))))⟩
theorem wkc_5 {σ : xS} (h0 : ¬ (rnV σ 0 6 = -1)) (h1 : ¬ (rnV (wk1 σ) 0 48 = -1)) (h2 : ¬ (xlushr (σ.2 400 0) (rnV (wk1 σ) 0 48) &&& 1 = 1)) (h3 : ¬ (rnV (wk2 σ) 0 3 = -1)) (h4 : ¬ (rnV (wk3 σ) 0 (σ.1 400 1 - 1) = -1)) (h5 : rnV (wk4 σ) 0 9 = -1) : wkV σ = 0 ∧ wkS σ = wk5 σ := ⟨(if_neg h0).trans ((if_neg h1).trans ((if_neg h2).trans ((if_neg h3).trans ((if_neg h4).trans (if_pos h5))))), (if_neg h0).trans ((if_neg h1).trans ((if_neg h2).trans ((if_neg h3).trans ((if_neg h4).trans (if_pos h5)))))⟩
theorem wkc_6 {σ : xS} (h0 : ¬ (rnV σ 0 6 = -1)) (h1 : ¬ (rnV (wk1 σ) 0 48 = -1)) (h2 : ¬ (xlushr (σ.2 400 0) (rnV (wk1 σ) 0 48) &&& 1 = 1)) (h3 : ¬ (rnV (wk2 σ) 0 3 = -1)) (h4 : ¬ (rnV (wk3 σ) 0 (σ.1 400 1 - 1) = -1)) (h5 : ¬ (rnV (wk4 σ) 0 9 = -1)) : wkV σ = 1 ∧ wkS σ = addW (wk5 σ) 400 (400 + 20 + tn (σ.1 400 2)) (rnV σ 0 6) (rnV (wk1 σ) 0 48) (rnV (wk2 σ) 0 3) (rnV (wk3 σ) 0 (σ.1 400 1 - 1)) (rnV (wk4 σ) 0 9) := ⟨(if_neg h0).trans ((if_neg h1).trans ((if_neg h2).trans ((if_neg h3).trans ((if_neg h4).trans (if_neg h5))))), (if_neg h0).trans ((if_neg h1).trans ((if_neg h2).trans ((if_neg h3).trans ((if_neg h4).trans (if_neg h5)))))⟩
theorem BO_1 {E b N a G' N' c : Nat} {ℓ : Nat → Int32} {V : Int32} {S' U : xS} (hc : a < c ∧ c ≤ E ∧ N ≤ N') (hV : V = 1) (h3 : S'.1 2 0 = nI c) (h4 : U.1 0 33 = nI c) (h5 : RdX E ℓ S') (h6 : RdM E b ℓ U) (h7 : TA 400 G' N' S' U.1) : BO E b ℓ N a V S' (1, U) := Or.inr ⟨rfl, G', N', c, hc, hV, h3, h4, ⟨h5, h6⟩, h7⟩
theorem BO_0 {E b N a p : Nat} {ℓ : Nat → Int32} {V k : Int32} {S' : xS} {A : Int32 × xS} (h1 : A.1 = 0) (h2 : A.2.1 0 37 = nI p) (h3 : V = 0) (h4 : S'.1 2 0 = nI p) : BO E b ℓ N a V S' (itY A k) := by
  rw [itY_0 h1]
  exact BO_f rfl h2 h3 h4
theorem nuFs1 {S : xS} {k : Int32} : nuG (nuF S k 0) k 0 = nuF S k 1 := rfl
theorem nuFs2 {S : xS} {k : Int32} : nuG (nuF S k 1) k 1 = nuF S k 2 := rfl
theorem nuFs3 {S : xS} {k : Int32} : nuG (nuF S k 2) k 2 = nuF S k 3 := rfl
theorem nuFs4 {S : xS} {k : Int32} : nuG (nuF S k 3) k 3 = nuF S k 4 := rfl
theorem nuFs5 {S : xS} {k : Int32} : nuG (nuF S k 4) k 4 = nuF S k 5 := rfl
theorem body_walker {E b G N a : Nat} {ℓ : Nat → Int32} {S T : xS} (hE : E ≤ 160) (hb : b ≤ 1120) (hN : N < 6) (hA : TA 400 G N S T.1) (hX : RdX E ℓ S) (hM : RdM E b ℓ T) (hp : S.1 2 0 = nI a) (hq : T.1 0 33 = nI (a + 1)) (h32 : lC E ℓ a = 32) : BO E b ℓ N a (wkV S) (wkS S) (itY (nuF T 3 5) 3) := by
  have ha := lC_lt h32 (by decide)
  have hG := hA.1.2.1.1
  have cG : S.1 400 1 = nI G := hA.1.1.1.1
  have cN : S.1 400 2 = nI N := hA.1.1.1.2
  have mG : T.1 0 0 = nI G := hA.1.2.1.2.2.1
  have dE : ∀ i, rdE T (nuF T 3 i).2 := fun i => nuF_e rdE_r
  have k1 : kp2 S (wk1 S) := wk1_k
  have k2 : kp2 S (wk2 S) := wk2_k
  have k3 : kp2 S (wk3 S) := wk3_k
  have k4 : kp2 S (wk4 S) := wk4_k
  have k5 : kp2 S (wk5 S) := wk5_k
  have n1 := N2 (i := 0) (k := 3) (lo := 0) (hi := 6) (X := fun _ => True) (S := S) (F := nuF T 3 0) hE hb (by omega) hX hp hM rfl (Or.inl ⟨rfl, h32, hq⟩) (fun U n hU hn he => by
    rw [so3_0, decide_eq_true_iff, he]
    exact ⟨fun q => ⟨⟨nI_pos' (by omega), q⟩, trivial⟩, fun q => q.1.2⟩)
  rw [nuFs1, wk1_e] at n1
  rcases n1 with ⟨f1, p, f2, f3⟩ | ⟨f1, x0, c0, g1, g2, g3, -, g5, g6, g7, g8, g9, g10⟩
  · rw [show nuF T 3 5 = nuF T 3 1 from nuF_fail f1 4]
    rcases f3 with ⟨h1, h2⟩ | ⟨n, h1, h2, h3, h4, h5⟩
    · exact BO_0 f1 f2 (wkc_0 h1).1 (by rw [(wkc_0 h1).2]; exact h2)
    · exact absurd trivial h4
  have v1 : ¬ rnV S 0 6 = -1 := by rw [g3]; exact nn1 g1
  have n2 := N2 (i := 1) (k := 3) (lo := 0) (hi := 48) (X := fun n => T.1 10 n = 0) (S := wk1 S) (F := nuF T 3 1) hE hb (by omega) (RdX_k k1 hX) g5 g9 f1 (Or.inr ⟨by omega, g7⟩) (fun U n hU hn he => by
    rw [so3_1, decide_eq_true_iff, he, tn_nI (by omega), hU.1 10 n (by omega) (by omega) (by omega), (dE 1).1 10 n (by omega) (by omega) (by omega)]
    exact ⟨fun q => ⟨⟨nI_pos' (by omega), q.1⟩, q.2⟩, fun q => ⟨q.1.2, q.2⟩⟩)
  rw [nuFs2, wk2_e] at n2
  rcases n2 with ⟨f1', p, f2, f3⟩ | ⟨f1', x1, c1, i1, i2, i3, i4, i5, i6, i7, i8, i9, i10⟩
  · rw [show nuF T 3 5 = nuF T 3 2 from nuF_fail f1' 3]
    rcases f3 with ⟨h1, h2⟩ | ⟨n, h1, h2, h3, h4, h5⟩
    · exact BO_0 f1' f2 (wkc_1 v1 h1).1 (by rw [(wkc_1 v1 h1).2]; exact h2)
    · have h48 : n ≤ 48 := by have := (nI_leI (a := n) (b := 48) (by omega) (by omega)).mp h2.2; exact this
      have hw : xlushr (S.2 400 0) (nI n) &&& 1 = 1 := by
        refine (hA.1.1.2.2.2 n (by omega)).mpr ?_
        obtain ⟨z, hz, ez⟩ := hA.1.2.2.2.2 n (by omega)
        have h4 : ¬ T.1 10 n = 0 := h4
        rw [ez] at h4 ⊢
        have : z = 1 := by
          rcases Nat.lt_or_ge z 1 with y | y
          · exact absurd (by rw [show z = 0 by omega]; rfl) h4
          · omega
        rw [this]; rfl
      have hw' : xlushr (S.2 400 0) (rnV (wk1 S) 0 48) &&& 1 = 1 := by rw [h3]; exact hw
      have v2 : ¬ rnV (wk1 S) 0 48 = -1 := by rw [h3]; exact nn1 h1
      exact BO_0 f1' f2 (wkc_2 v1 v2 hw').1 (by rw [(wkc_2 v1 v2 hw').2, xI_s]; exact h5)
  have h48 : x1 ≤ 48 := by have := (nI_leI (a := x1) (b := 48) (by omega) (by omega)).mp i2.2; exact this
  have v2 : ¬ rnV (wk1 S) 0 48 = -1 := by rw [i3]; exact nn1 i1
  have v2w : ¬ (xlushr (S.2 400 0) (rnV (wk1 S) 0 48) &&& 1 = 1) := by
    rw [i3]
    intro z
    have := (hA.1.1.2.2.2 x1 (by omega)).mp z
    have i4 : T.1 10 x1 = 0 := i4
    rw [i4] at this
    exact absurd this (by decide)
  have n3 := N2 (i := 2) (k := 3) (lo := 0) (hi := 3) (X := fun _ => True) (S := wk2 S) (F := nuF T 3 2) hE hb (by omega) (RdX_k k2 hX) i5 i9 f1' (Or.inr ⟨by omega, i7⟩) (fun U n hU hn he => by
    rw [so3_2, decide_eq_true_iff, he]
    exact ⟨fun q => ⟨⟨nI_pos' (by omega), q⟩, trivial⟩, fun q => q.1.2⟩)
  rw [nuFs3, wk3_e] at n3
  rcases n3 with ⟨f1'', p, f2, f3⟩ | ⟨f1'', x2, c2, j1, j2, j3, -, j5, j6, j7, j8, j9, j10⟩
  · rw [show nuF T 3 5 = nuF T 3 3 from nuF_fail f1'' 2]
    rcases f3 with ⟨h1, h2⟩ | ⟨n, h1, h2, h3, h4, h5⟩
    · exact BO_0 f1'' f2 (wkc_3 v1 v2 v2w h1).1 (by rw [(wkc_3 v1 v2 v2w h1).2]; exact h2)
    · exact absurd trivial h4
  have v3 : ¬ rnV (wk2 S) 0 3 = -1 := by rw [j3]; exact nn1 j1
  have h3' : x2 ≤ 3 := by have := (nI_leI (a := x2) (b := 3) (by omega) (by omega)).mp j2.2; exact this
  have n4 := N2 (i := 3) (k := 3) (lo := 0) (hi := S.1 400 1 - 1) (X := fun _ => True) (S := wk3 S) (F := nuF T 3 3) hE hb (by omega) (RdX_k k3 hX) j5 j9 f1'' (Or.inr ⟨by omega, j7⟩) (fun U n hU hn he => by
    rw [so3_3, decide_eq_true_iff, he, hU.2.1 0 (by omega), (dE 3).2.1 0 (by omega), mG, cG]
    exact ⟨fun q => ⟨(gt_pr G (by omega) n hn).mp q, trivial⟩, fun q => (gt_pr G (by omega) n hn).mpr q.1⟩)
  rw [nuFs4, wk4_e] at n4
  rcases n4 with ⟨f4, p, f2, f3⟩ | ⟨f4, x3, c3, l1, l2, l3, -, l5, l6, l7, l8, l9, l10⟩
  · rw [show nuF T 3 5 = nuF T 3 4 from nuF_fail f4 1]
    rcases f3 with ⟨h1, h2⟩ | ⟨n, h1, h2, h3, h4, h5⟩
    · exact BO_0 f4 f2 (wkc_4 v1 v2 v2w v3 h1).1 (by rw [(wkc_4 v1 v2 v2w v3 h1).2]; exact h2)
    · exact absurd trivial h4
  have v4 : ¬ rnV (wk3 S) 0 (S.1 400 1 - 1) = -1 := by rw [l3]; exact nn1 l1
  have hg' : x3 < G := by
    rw [cG] at l2
    exact (nI_ltI (a := x3) (b := G) (by omega) (by omega)).mp ((gt_pr G (by omega) x3 l1).mpr l2)
  have n5 := N2 (i := 4) (k := 3) (lo := 0) (hi := 9) (X := fun _ => True) (S := wk4 S) (F := nuF T 3 4) hE hb (by omega) (RdX_k k4 hX) l5 l9 f4 (Or.inr ⟨by omega, l7⟩) (fun U n hU hn he => by
    rw [so3_4, decide_eq_true_iff, he]
    exact ⟨fun q => ⟨⟨nI_pos' (by omega), q⟩, trivial⟩, fun q => q.1.2⟩)
  rw [nuFs5, wk5_e] at n5
  rcases n5 with ⟨f5, p, f2, f3⟩ | ⟨f5, x4, c4, m1, m2, m3, -, m5, m6, m7, m8, m9, m10⟩
  · skip
    rcases f3 with ⟨h1, h2⟩ | ⟨n, h1, h2, h3, h4, h5⟩
    · exact BO_0 f5 f2 (wkc_5 v1 v2 v2w v3 v4 h1).1 (by rw [(wkc_5 v1 v2 v2w v3 v4 h1).2]; exact h2)
    · exact absurd trivial h4
  have v5 : ¬ rnV (wk4 S) 0 9 = -1 := by rw [m3]; exact nn1 m1
  rw [itY_1 f5]
  have e0 : (nuF T 3 5).2.1 30 0 = nI x0 := by rw [m10 0 (by omega), l10 0 (by omega), j10 0 (by omega), i10 0 (by omega)]; exact g8
  have e1 : (nuF T 3 5).2.1 30 1 = nI x1 := by rw [m10 1 (by omega), l10 1 (by omega), j10 1 (by omega)]; exact i8
  have e2 : (nuF T 3 5).2.1 30 2 = nI x2 := by rw [m10 2 (by omega), l10 2 (by omega)]; exact j8
  have e3 : (nuF T 3 5).2.1 30 3 = nI x3 := by rw [m10 3 (by omega)]; exact l8
  have eZ : itZ (nuF T 3 5).2 3 = (1, adM (nuF T 3 5).2 (nI x0) (nI x1) (nI x2) (nI x3) (nI x4)) := by
    unfold itZ
    rw [if_neg (by decide), if_neg (by decide), if_neg (by decide), if_pos rfl, e0, e1, e2, e3, m8]
  have eS : wkS S = addW (wk5 S) 400 (400 + 20 + N) (nI x0) (nI x1) (nI x2) (nI x3) (nI x4) := by
    rw [(wkc_6 v1 v2 v2w v3 v4 v5).2, g3, i3, j3, l3, m3, cN, tn_nI (by omega)]
  have hx0 : x0 ≤ 6 := by have := (nI_leI (a := x0) (b := 6) (by omega) (by omega)).mp g2.2; exact this
  have A5 := TA_rd k5 (dE 5) hA
  rw [eZ, eS]
  have wV := (wkc_6 v1 v2 v2w v3 v4 v5).1
  have X5 := RdX_k (E := E) (ℓ := ℓ) k5 hX
  clear eZ eS e0 e1 e2 e3 f1 f1' f1'' f4 f5 dE k1 k2 k3 k4 k5
  generalize (nuF T 3 5).2 = U5 at *
  generalize wk5 S = Z5 at *
  refine BO_1 (G' := G) (N' := N + 1) (c := c4) ⟨by omega, m6.2, by omega⟩ wV ?_ ?_ ?_ ?_ (TA_add A5 hN (by omega) (by omega) (by omega) hg')
  · rw [addW_o (by omega) (by omega)]; exact m5
  · rw [adM_o (by omega) (by omega)]; exact m7
  · exact RdX_o (fun b => addW_o (by omega) (by omega)) (fun b => addW_o (by omega) (by omega)) X5
  · exact RdM_v (adM_o (by omega) (by omega)) (adM_o (by omega) (by omega)) rfl m9
