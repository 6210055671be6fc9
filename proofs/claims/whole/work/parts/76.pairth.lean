/-! the calls in thought, side by side -/
theorem RRn_G {G N : Nat} {σ τ : xS} (h : RRn G N σ τ) : (G ≤ 8 ∧ N ≤ 6) ∧ (σ.1 100 1 = nI G ∧ τ.1 0 0 = nI G) ∧ (σ.1 100 2 = nI N ∧ τ.1 0 1 = nI N) := ⟨⟨h.1.1.2.1.1, h.1.1.2.1.2.1⟩, ⟨h.1.1.1.1.1, h.1.1.2.1.2.2.1⟩, ⟨h.1.1.1.1.2, h.1.1.2.1.2.2.2⟩⟩
theorem nrg {y k : Int32} : ¬ (0 ≤ y ∧ y ≤ k) ↔ (y < 0 ∨ k < y) := by
  constructor
  · intro h
    by_cases h0 : 0 ≤ y
    · exact Or.inr (Int32.not_le.mp (fun q => h ⟨h0, q⟩))
    · exact Or.inl (Int32.not_le.mp h0)
  · rintro (h | h) q
    · exact Int32.not_le.mpr h q.1
    · exact Int32.not_le.mpr h q.2
theorem rgl {x : Int32} {n : Nat} (hn : n < 2 ^ 31) (h : 0 ≤ x ∧ x < nI n) : ∃ w, w < n ∧ x = nI w := nI_rg hn h.1 h.2
theorem tldX_n {S : xS} {K : Nat} : ∀ m, m < 7 → tldX S K (nI m) = S.1 K m
  | 0, _ => rfl
  | 1, _ => rfl
  | 2, _ => rfl
  | 3, _ => rfl
  | 4, _ => rfl
  | 5, _ => rfl
  | 6, _ => rfl
  | n + 7, h => by omega
theorem ofM_n {S : xS} {w : Nat} : ∀ m, m < 5 → ofM S w (nI m) = S.1 (13 + m) w
  | 0, _ => rfl
  | 1, _ => rfl
  | 2, _ => rfl
  | 3, _ => rfl
  | 4, _ => rfl
  | n + 5, h => by omega
theorem tld_of {S T : xS} {K w : Nat} (h : TK S K T.1 w) {m : Nat} (hm : m < 5) : tldX S K (nI m + 1) = ofM T w (nI m) := by
  rw [nI_1, tldX_n _ (by omega), ofM_n _ hm]
  obtain ⟨k0, k1, k2, k3, k4, k5, k6⟩ := h
  have : m = 0 ∨ m = 1 ∨ m = 2 ∨ m = 3 ∨ m = 4 := by omega
  rcases this with rfl | rfl | rfl | rfl | rfl <;> assumption
theorem RR_th {G N : Nat} {σ τ : xS} (h : RRn G N σ τ) (n : Int32) (k : Nat) (k' : Nat) : RR (gbX 200 k (thX σ n)) (baM (gbM k' (bgM τ))) := ⟨G, N, RRn_f (gb_fr h n k) (gb_back (RRn_G h).1.2 k') h⟩
theorem RR_th0 {G N : Nat} {σ τ : xS} (h : RRn G N σ τ) (n : Int32) : RR (thX σ n) (baM (thM τ n)) := RR_th h n 0 (tn n)
theorem hv_eq {B G N : Nat} {S T : xS} (hN : N ≤ 6) (hT : TW B G N S T.1) (hm : T.1 0 1 = nI N) (g : Int32) : hvX S B g = hvM T g := by
  unfold hvX hvM
  rw [hT.1.2, hm, tn_nI (by omega)]
  refine xbits_congr (fun i hi => ?_)
  unfold hvP
  rw [(hT.2.2.1 i hi).2.2.2.1]
theorem ok_at {G N : Nat} {σ τ : xS} (h : RRn G N σ τ) (n x y : Int32) : OKp (attX σ n x y) (attM τ n x y) := by
  obtain ⟨⟨hG, hN⟩, ⟨c1, c2⟩, ⟨c3, c4⟩⟩ := RRn_G h
  unfold attX attM
  rw [c3, c4]
  by_cases hx : 0 ≤ x ∧ x < nI N
  · rw [if_neg (not_not_intro hx), if_neg (not_not_intro hx)]
    by_cases hy : 0 ≤ y ∧ y ≤ 4
    · rw [if_neg (not_not_intro hy), if_neg (show ¬ (y < 0 ∨ 4 < y) from fun q => (nrg.mpr q) hy)]
      by_cases hn : 0 ≤ n ∧ n ≤ 400
      · rw [if_neg (not_not_intro hn), if_neg (not_not_intro hn)]
        obtain ⟨w, hw, rfl⟩ := rgl (by omega) hx
        obtain ⟨m, hm, rfl⟩ := nI_rl (k := 4) (by omega) hy.1 hy.2
        have t := (th_ok h n).1.1
        refine ⟨?_, RR_th0 h n⟩
        show tldX (thX σ n) (whoK 200 (nI w)) (nI m + 1) = ofM (thM τ n) (tn (nI w)) (nI m)
        rw [whoK_n (by omega), tn_nI (by omega)]
        exact tld_of (t.2.2.1 w hw) (by omega)
      · rw [if_pos hn, if_pos hn]
        exact no_p rk6 h
    · rw [if_pos hy, if_pos (nrg.mp hy)]
      exact no_p rk5 h
  · rw [if_pos hx, if_pos hx]
    exact no_p rk1 h
theorem ok_have {G N : Nat} {σ τ : xS} (h : RRn G N σ τ) (n g : Int32) : OKp (havX σ n g) (havM τ n g) := by
  obtain ⟨⟨hG, hN⟩, ⟨c1, c2⟩, ⟨c3, c4⟩⟩ := RRn_G h
  unfold havX havM
  rw [c1, c2]
  by_cases hx : 0 ≤ g ∧ g < nI G
  · rw [if_neg (not_not_intro hx), if_neg (not_not_intro hx)]
    by_cases hn : 0 ≤ n ∧ n ≤ 400
    · rw [if_neg (not_not_intro hn), if_neg (not_not_intro hn)]
      have t := (th_ok h n).1
      exact ⟨hv_eq hN t.1 t.2.1.2.2.2 g, RR_th0 h n⟩
    · rw [if_pos hn, if_pos hn]
      exact no_p rk6 h
  · rw [if_pos hx, if_pos hx]
    exact no_p rk1 h
theorem ok_meetings {G N : Nat} {σ τ : xS} (h : RRn G N σ τ) (n : Int32) : OKp (mtgX σ n) (mtgM τ n) := by
  unfold mtgX mtgM
  by_cases hn : 0 ≤ n ∧ n ≤ 400
  · rw [if_neg (not_not_intro hn), if_neg (not_not_intro hn)]
    exact ⟨(th_ok h n).2, RR_th0 h n⟩
  · rw [if_pos hn, if_pos hn]
    exact no_p rk6 h
theorem sv_eq {G N : Nat} {S T : xS} (hT : TW 200 G N S T.1) : ∀ i, i ≤ N → svI S i = svM T i
  | 0, _ => rfl
  | i + 1, hi => by
    have e : svI S (i + 1) = svI S i ||| xshl 1 (S.1 (200 + 20 + i) 3) := rfl
    rw [e, svM_s, sv_eq hT i (by omega), (hT.2.2.1 i (by omega)).2.2.2.1]
theorem ok_survives {G N : Nat} {σ τ : xS} (h : RRn G N σ τ) (n : Int32) : OKp (surX σ n) (surM τ n) := by
  obtain ⟨⟨hG, hN⟩, ⟨c1, c2⟩, ⟨c3, c4⟩⟩ := RRn_G h
  unfold surX surM
  by_cases hn : 0 ≤ n ∧ n ≤ 400
  · rw [if_neg (not_not_intro hn), if_neg (not_not_intro hn), c3, c4, tn_nI (by omega)]
    exact ⟨sv_eq (th_ok h n).1.1 N (Nat.le_refl _), RR_th0 h n⟩
  · rw [if_pos hn, if_pos hn]
    exact no_p rk6 h
theorem thM_0 {τ : xS} : thM τ 0 = bgM τ := rfl
theorem th_b {G N : Nat} {σ τ : xS} (h : RRn G N σ τ) (b : Nat) : TW 200 G N (gbX 200 b (thX σ 0)) (gbM b (bgM τ)).1 ∧ WF G N (gbM b (bgM τ)).1 := by
  have t := (th_ok h 0).1
  rw [thM_0] at t
  exact (beats_ok t.1 t.2 b).1
theorem sr_ok {G N : Nat} {σ τ : xS} (h : RRn G N σ τ) {P Q : Nat → Bool} (hPQ : ∀ b, P b = Q b) : OKp (srX P (thX σ 0)) (srM Q (bgM τ)) := by
  have e : P = Q := funext hPQ
  subst e
  have key : ∀ M M' : Nat, OKp (xfirst P M, gbX 200 (xfs P M) (thX σ 0)) (xfirst P M, baM (gbM (if xfs P M < M then xfs P M else M') (bgM τ))) := fun M M' => ⟨rfl, RR_th h 0 _ _⟩
  unfold srX srM
  exact key 401 400
theorem ok_lost {G N : Nat} {σ τ : xS} (h : RRn G N σ τ) (g : Int32) : OKp (losX σ g) (losM τ g) := by
  obtain ⟨⟨hG, hN⟩, ⟨c1, c2⟩, ⟨c3, c4⟩⟩ := RRn_G h
  unfold losX losM
  rw [c1, c2]
  by_cases hx : 0 ≤ g ∧ g < nI G
  · rw [if_neg (not_not_intro hx), if_pos hx]
    refine sr_ok h (fun b => ?_)
    have t := th_b h b
    unfold lsP foP
    rw [hv_eq hN t.1 t.2.1.2.2.2 g]
    exact decide_eq_decide.mpr (by rw [if_pos rfl])
  · rw [if_pos hx, if_neg hx]
    exact nt_p rk11 (by decide) h
theorem ok_comes {G N : Nat} {σ τ : xS} (h : RRn G N σ τ) (g x : Int32) : OKp (comX σ g x) (comM τ g x) := by
  obtain ⟨⟨hG, hN⟩, ⟨c1, c2⟩, ⟨c3, c4⟩⟩ := RRn_G h
  unfold comX comM
  rw [c1, c2, c3, c4]
  by_cases hx : (0 ≤ g ∧ g < nI G) ∧ (0 ≤ x ∧ x < nI N)
  · rw [if_neg (show ¬ (¬ (0 ≤ g ∧ g < nI G) ∨ ¬ (0 ≤ x ∧ x < nI N)) from fun q => q.elim (fun z => z hx.1) (fun z => z hx.2)), if_pos hx]
    obtain ⟨w, hw, rfl⟩ := rgl (by omega) hx.2
    refine sr_ok h (fun b => ?_)
    have t := th_b h b
    unfold cmP foP
    rw [whoK_n (by omega), tn_nI (by omega), (t.1.2.2.1 w hw).2.2.2.1]
    exact decide_eq_decide.mpr (by rw [if_neg (nm1_nI (by omega))])
  · have hx' : ¬ (0 ≤ g ∧ g < nI G) ∨ ¬ (0 ≤ x ∧ x < nI N) := by
      by_cases q : 0 ≤ g ∧ g < nI G
      · exact Or.inr (fun z => hx ⟨q, z⟩)
      · exact Or.inl q
    rw [if_pos hx', if_neg hx]
    exact nt_p rk11 (by decide) h
theorem ak_eq {G N : Nat} {S T : xS} (hN : N ≤ 6) (hT : TW 200 G N S T.1) (hm : T.1 0 1 = nI N) : haX S 200 (S.1 (whoK 200 0) 3) = akM T := by
  have ew : whoK 200 0 = 200 + 20 + 0 := whoK_n (i := 0) (by omega)
  unfold haX akM
  rw [ew, hT.1.2, hm, tn_nI (by omega)]
  rw [Bool.eq_iff_iff, xany_iff, xany_iff]
  constructor
  · rintro ⟨i, hi, hp⟩
    have hp := of_decide_eq_true hp
    have hi0 : i ≠ 0 := fun e => by rw [e] at hp; exact hp rfl
    refine ⟨i - 1, by omega, ?_⟩
    unfold akP
    rw [show i - 1 + 1 = i by omega]
    refine decide_eq_true ?_
    rw [← (hT.2.2.1 i hi).2.2.2.1, ← (hT.2.2.1 0 (by omega)).2.2.2.1]
    exact hp
  · rintro ⟨i, hi, hp⟩
    have hp := of_decide_eq_true hp
    refine ⟨i + 1, by omega, decide_eq_true ?_⟩
    rw [(hT.2.2.1 (i + 1) (by omega)).2.2.2.1, (hT.2.2.1 0 (by omega)).2.2.2.1]
    exact hp
theorem ok_alike {G N : Nat} {σ τ : xS} (h : RRn G N σ τ) : OKp (aliX σ) (aliM τ) := by
  obtain ⟨⟨hG, hN⟩, -, -⟩ := RRn_G h
  unfold aliX aliM
  refine sr_ok h (fun b => ?_)
  have t := th_b h b
  unfold alP alQ
  rw [ak_eq hN t.1 t.2.1.2.2.2]
theorem mr_ok {G N : Nat} {σ τ : xS} (h : RRn G N σ τ) {P Q : Nat → Bool} (hPQ : ∀ b, P b = Q b) : OKp (mtX P (thX σ 0)) (mrM Q (bgM τ)) := by
  have e : P = Q := funext hPQ
  subst e
  have key : ∀ M M' : Nat, OKp (if xfs P M < M then nI (xfs P M + 1) else -1, gbX 200 (if xfs P M < M then xfs P M + 1 else M') (thX σ 0)) (if xfs P M < M then nI (xfs P M + 1) else -1, baM (gbM (if xfs P M < M then xfs P M + 1 else M') (bgM τ))) := fun M M' => ⟨rfl, RR_th h 0 _ _⟩
  unfold mtX mrM
  exact key 400 400
theorem ok_meet {G N : Nat} {σ τ : xS} (h : RRn G N σ τ) (x y : Int32) : OKp (meeX σ x y) (meeM τ x y) := by
  obtain ⟨⟨hG, hN⟩, ⟨c1, c2⟩, ⟨c3, c4⟩⟩ := RRn_G h
  unfold meeX meeM
  rw [c3, c4]
  by_cases hx : ¬ (0 ≤ x ∧ x < nI N) ∨ ¬ (0 ≤ y ∧ y < nI N)
  · rw [if_pos hx, if_pos hx]
    exact nt_p rk11 (by decide) h
  · rw [if_neg hx, if_neg hx]
    have h1 : 0 ≤ x ∧ x < nI N := Classical.not_not.mp (fun q => hx (Or.inl q))
    have h2 : 0 ≤ y ∧ y < nI N := Classical.not_not.mp (fun q => hx (Or.inr q))
    obtain ⟨w, hw, rfl⟩ := rgl (by omega) h1
    obtain ⟨u, hu, rfl⟩ := rgl (by omega) h2
    by_cases hxy : nI w = nI u
    · rw [if_pos hxy, if_pos hxy]
      exact nt_p rk16 (by decide) h
    · rw [if_neg hxy, if_neg hxy]
      refine mr_ok h (fun b => ?_)
      have t := th_b h (b + 1)
      unfold mtP mtQ
      rw [whoK_n (by omega), whoK_n (by omega), tn_nI (by omega), tn_nI (by omega), (t.1.2.2.1 w hw).2.1, (t.1.2.2.1 u hu).2.1]
theorem thF_c {τ : xS} {g : Int32} {N : Nat} : ∀ i, i ≤ N → ((∀ j, N - i ≤ j → j < N → ¬ τ.1 15 j = g) ∧ thF τ g N i = -1) ∨ (∃ j, (N - i ≤ j ∧ j < N) ∧ τ.1 15 j = g ∧ (∀ k, N - i ≤ k → k < j → ¬ τ.1 15 k = g) ∧ thF τ g N i = nI j)
  | 0, _ => Or.inl ⟨fun j h1 h2 => by omega, rfl⟩
  | i + 1, hi => by
    rw [thF_s]
    by_cases hg : τ.1 15 (N - (i + 1)) = g
    · rw [if_pos hg]
      exact Or.inr ⟨N - (i + 1), ⟨Nat.le_refl _, by omega⟩, hg, fun k h1 h2 => by omega, rfl⟩
    · rw [if_neg hg]
      rcases thF_c (τ := τ) (g := g) (N := N) i (by omega) with ⟨h1, h2⟩ | ⟨j, ⟨h0, h1⟩, h2, h3, h4⟩
      · refine Or.inl ⟨fun j q1 q2 => ?_, h2⟩
        by_cases e : j = N - (i + 1)
        · rw [e]; exact hg
        · exact h1 j (by omega) q2
      · refine Or.inr ⟨j, ⟨by omega, h1⟩, h2, fun k q1 q2 => ?_, h4⟩
        by_cases e : k = N - (i + 1)
        · rw [e]; exact hg
        · exact h3 k (by omega) q2
theorem ok_thief {G N : Nat} {σ τ : xS} (h : RRn G N σ τ) (g n : Int32) : OKp (thiX σ g n) (thiM τ g n) := by
  obtain ⟨⟨hG, hN⟩, ⟨c1, c2⟩, ⟨c3, c4⟩⟩ := RRn_G h
  have hT := h.1.1.1
  have hgt : ∀ i, i < N → σ.1 (120 + i) 3 = τ.1 15 i := fun i hi => (hT.2.2.1 i hi).2.2.2.1
  have key : (xfirst (fun i => decide (σ.1 (120 + i) 3 = g)) N = -1 ∧ thF τ g N N = -1) ∨ (∃ j, j < N ∧ xfirst (fun i => decide (σ.1 (120 + i) 3 = g)) N = nI j ∧ thF τ g N N = nI j) := by
    rcases thF_c (τ := τ) (g := g) (N := N) N (Nat.le_refl _) with ⟨h1, h2⟩ | ⟨j, ⟨h0, h1⟩, h2, h3, h4⟩
    · exact Or.inl ⟨xfirst_no (fun i hi => decide_eq_false (by rw [hgt i hi]; exact h1 i (by omega) hi)), h2⟩
    · exact Or.inr ⟨j, h1, xfirst_at h1 (decide_eq_true (by rw [hgt j h1]; exact h2)) (fun k hk => decide_eq_false (by rw [hgt k (by omega)]; exact h3 k (by omega) hk)), h4⟩
  unfold thiX thiM thW
  rw [c1, c2, c3, c4, tn_nI (by omega)]
  by_cases hx : 0 ≤ g ∧ g < nI G
  · rw [if_neg (not_not_intro hx), if_neg (not_not_intro hx)]
    rcases key with ⟨k1, k2⟩ | ⟨j, hj, k1, k2⟩
    · rw [k1, k2, if_pos (rfl : (-1 : Int32) = -1), if_pos (rfl : (-1 : Int32) = -1)]
      exact no_p rk5 h
    · rw [k1, k2, if_neg (nm1_nI (n := j) (by omega)), if_neg (nm1_nI (n := j) (by omega))]
      by_cases hn : 0 ≤ n ∧ n ≤ 400
      · rw [if_neg (not_not_intro hn), if_neg (not_not_intro hn)]
        refine ⟨?_, RR_th0 h n⟩
        show (thX σ n).1 (whoK 200 (nI j)) 1 = (thM τ n).1 13 (tn (nI j))
        rw [whoK_n (by omega), tn_nI (by omega)]
        exact ((th_ok h n).1.1.2.2.1 j hj).2.1
      · rw [if_pos hn, if_pos hn]
        exact no_p rk6 h
  · rw [if_pos hx, if_pos hx]
    exact no_p rk1 h
