/-! rings, side by side -/
theorem EQ_step {G N : Nat} {Z U : xS} (hT : TW 200 G N Z U.1) (hW : WF G N U.1) {b c : Nat} (h : EQ N (gbM b U).1 (gbM c U).1) : EQ N (gbM (b + 1) U).1 (gbM (c + 1) U).1 := by
  obtain ⟨⟨tb, wb⟩, -⟩ := beats_ok hT hW b
  obtain ⟨⟨tc, wc⟩, -⟩ := beats_ok hT hW c
  have ho : ∀ a x, a ≤ 12 → (gbM b U).1 a x = (gbM c U).1 a x := fun a x q => by rw [gbM_o (by omega), gbM_o (by omega)]
  have hv : ∀ a w, 11 ≤ a → a ≤ 17 → w < N → (gbM c U).1 a w = (gbM b U).1 a w := fun a w q1 q2 q3 => by
    by_cases h12 : a ≤ 12
    · exact (ho a w h12).symm
    · exact (cd_inj wb wc q3 (h w q3) a (by omega) q2).symm
  have t2 := TW_v (fun a x q1 q2 => (ho a x (by omega)).symm) hv tb
  obtain ⟨x1, y1⟩ := beat_ok tb wb
  obtain ⟨x2, y2⟩ := beat_ok t2 wc
  intro w hw
  obtain ⟨k0, k1, k2, k3, k4, k5, k6⟩ := x1.2.2.1 w hw
  obtain ⟨l0, l1, l2, l3, l4, l5, l6⟩ := x2.2.2.1 w hw
  rw [gbM_s, gbM_s]
  unfold cd
  rw [← k1, ← k2, ← k3, ← k4, ← k5, ← l1, ← l2, ← l3, ← l4, ← l5]
theorem EQ_sym {N : Nat} {v v' : Nat → Nat → Int32} (h : EQ N v v') : EQ N v' v := fun w hw => (h w hw).symm
theorem EQ_tr {N : Nat} {u v v' : Nat → Nat → Int32} (h : EQ N u v) (h' : EQ N v v') : EQ N u v' := fun w hw => (h w hw).trans (h' w hw)
/-- the first that comes back closes the first ring -/
theorem ring_in {E : Nat → Nat → Prop} (hs : ∀ b c, E b c → E c b) (ht : ∀ a b c, E a b → E b c → E a c) (hn : ∀ b c, E b c → E (b + 1) (c + 1)) {i j : Nat} (hj : j < i) (he : E j i) : ∀ d, ∃ k, (j ≤ k ∧ k < i) ∧ E k (i + d)
  | 0 => ⟨j, ⟨Nat.le_refl _, hj⟩, he⟩
  | d + 1 => by
    obtain ⟨k, ⟨k1, k2⟩, k3⟩ := ring_in hs ht hn hj he d
    have h := hn _ _ k3
    by_cases e : k + 1 < i
    · exact ⟨k + 1, ⟨by omega, e⟩, h⟩
    · have e : k + 1 = i := by omega
      rw [e] at h
      exact ⟨j, ⟨Nat.le_refl _, hj⟩, ht _ _ _ he h⟩
theorem ring_no {E : Nat → Nat → Prop} (hs : ∀ b c, E b c → E c b) (ht : ∀ a b c, E a b → E b c → E a c) (hn : ∀ b c, E b c → E (b + 1) (c + 1)) {i j : Nat} (hj : j < i) (he : E j i) (hi : ∀ i', i' < i → ∀ j', j' < i' → ¬ E j' i') (hj' : ∀ j', j' < j → ¬ E j' i) {b c : Nat} (hb : b < j) (hbc : b < c) : ¬ E b c := by
  intro h
  by_cases h1 : c < i
  · exact hi c h1 b hbc h
  · obtain ⟨k, ⟨k1, k2⟩, k3⟩ := ring_in hs ht hn hj he (c - i)
    rw [show i + (c - i) = c by omega] at k3
    exact hi k k2 b (by omega) (ht _ _ _ h (hs _ _ k3))
/-! the class's numbers -/
theorem ry_ok {G N : Nat} {σ U : xS} (hT : TW 200 G N (thX σ 0) U.1) (hW : WF G N U.1) : ∀ i, TW 200 G N (ryS σ i) (gbM i U).1 ∧ ∀ j, j < i → (ryS σ i).2 7 j = lN (pkN N 0 (gbM j U).1) ∧ (ryS σ i).2 8 j = lN (pkN N 3 (gbM j U).1)
  | 0 => ⟨hT, fun j hj => absurd hj (Nat.not_lt_zero _)⟩
  | i + 1 => by
    obtain ⟨iT, iL⟩ := ry_ok hT hW i
    have wi := (beats_ok hT hW i).1.2
    have a0 : pkX (ryS σ i) 200 0 3 = lN (pkN N 0 (gbM i U).1) := pkX_c (x := 0) iT wi (by omega)
    have a3 : pkX (xJ (ryS σ i) 7 i (pkX (ryS σ i) 200 0 3)) 200 3 3 = lN (pkN N 3 (gbM i U).1) := pkX_c (x := 3) iT wi (by omega)
    have tw : TW 200 G N (ryW (ryS σ i) i) (gbM i U).1 := TW_c wi.1.1 wi.1.2.1 (fun a b _ _ _ => rfl) (by unfold ryW; rw [xJ_ne _ _ _ (by omega), xJ_ne _ _ _ (by omega)]) iT
    refine ⟨?_, fun j hj => ?_⟩
    · rw [← ryS_s, gbM_s]
      exact (beat_ok tw wi).1
    · rw [← ryS_s, beatX_2]
      by_cases e : j = i
      · subst e
        unfold ryW
        rw [← a3, ← a0]
        refine ⟨?_, ?_⟩
        · rw [xJ_ne _ _ _ (by omega)]; simp [xJ]
        · simp [xJ]
      · obtain ⟨l1, l2⟩ := iL j (by omega)
        rw [← l1, ← l2]
        unfold ryW
        refine ⟨?_, ?_⟩
        · rw [xJ_ne _ _ _ (by omega)]; simp [xJ, e]
        · simp [xJ, e]
theorem ry_w {G N : Nat} {σ U : xS} (hT : TW 200 G N (thX σ 0) U.1) (hW : WF G N U.1) (i : Nat) : ∀ j, j ≤ i → (ryW (ryS σ i) i).2 7 j = lN (pkN N 0 (gbM j U).1) ∧ (ryW (ryS σ i) i).2 8 j = lN (pkN N 3 (gbM j U).1) := by
  intro j hj
  have := (ry_ok hT hW (i + 1)).2 j (by omega)
  rw [← ryS_s, beatX_2] at this
  exact this
theorem sb_E {G N : Nat} {σ U : xS} (hT : TW 200 G N (thX σ 0) U.1) (hW : WF G N U.1) {i j : Nat} (hj : j < i) : sbP (ryW (ryS σ i) i) i j = true ↔ EQ N (gbM j U).1 (gbM i U).1 := by
  have wi := (beats_ok hT hW i).1.2
  have wj := (beats_ok hT hW j).1.2
  obtain ⟨x1, x2⟩ := ry_w hT hW i j (by omega)
  obtain ⟨y1, y2⟩ := ry_w hT hW i i (Nat.le_refl _)
  unfold sbP
  rw [decide_eq_true_iff, x1, x2, y1, y2]
  exact EQ_pk wj wi
/-! the reference's numbers -/
theorem rq_ok {G N : Nat} {Z U : xS} (hT : TW 200 G N Z U.1) (hW : WF G N U.1) : ∀ i j, j < i → (rqU U i).2 45 j = lN (mkN (gbM j U).1 0 (min 3 (N - 0))) ∧ (rqU U i).2 46 j = lN (mkN (gbM j U).1 3 (min 3 (N - 3)))
  | i + 1, j, hj => by
    have wi := (beats_ok hT hW i).1.2
    have e1 : (rqU U i).1 = (gbM i U).1 := rqU_1
    have a0 : mkV (rqU U i) 0 = lN (mkN (gbM i U).1 0 (min 3 (N - 0))) := by rw [← e1]; exact mkV_c (T := rqU U i) (x := 0) (by rw [e1]; exact wi) (by omega)
    have a3 : mkV (xJ (rqU U i) 45 i (mkV (rqU U i) 0)) 3 = lN (mkN (gbM i U).1 3 (min 3 (N - 3))) := by rw [← e1]; exact mkV_c (T := xJ (rqU U i) 45 i (mkV (rqU U i) 0)) (x := 3) (by show WF G N (rqU U i).1; rw [e1]; exact wi) (by omega)
    rw [← rqU_s, beM_2]
    by_cases e : j = i
    · subst e
      unfold rqW
      rw [← a3, ← a0]
      refine ⟨?_, ?_⟩
      · rw [xJ_ne _ _ _ (by omega)]; simp [xJ]
      · simp [xJ]
    · obtain ⟨l1, l2⟩ := rq_ok hT hW i j (by omega)
      rw [← l1, ← l2]
      unfold rqW
      refine ⟨?_, ?_⟩
      · rw [xJ_ne _ _ _ (by omega)]; simp [xJ, e]
      · simp [xJ, e]
theorem rqU_27 {U : xS} {c : Nat} : ∀ {i : Nat}, (rqU U i).2 27 c = U.2 27 c
  | 0 => rfl
  | i + 1 => by
    rw [← rqU_s, beM_2]
    unfold rqW
    rw [xJ_ne _ _ _ (by omega), xJ_ne _ _ _ (by omega)]
    exact rqU_27
theorem rhZ_e {τ : xS} {M : Nat} (hM : M = 400) : rhZ τ = baM (rqW (rqU (bgM τ) M) M) := by subst hM; rfl
theorem rh_2 {τ : xS} {M a c : Nat} (hM : M = 400) : (rhZ τ).2 a c = (rqU (bgM τ) (M + 1)).2 a c := by rw [rhZ_e hM, ← rqU_s, beM_2]; rfl
theorem rhP_E {G N M : Nat} {Z τ : xS} (hM : M = 400) (hT : TW 200 G N Z (bgM τ).1) (hW : WF G N (bgM τ).1) {b c : Nat} (hb : b ≤ M) (hc : c ≤ M) : rhP (rhZ τ) b c = true ↔ EQ N (gbM b (bgM τ)).1 (gbM c (bgM τ)).1 := by
  have wb := (beats_ok hT hW b).1.2
  have wc := (beats_ok hT hW c).1.2
  obtain ⟨x1, x2⟩ := rq_ok hT hW (M + 1) b (by omega)
  obtain ⟨y1, y2⟩ := rq_ok hT hW (M + 1) c (by omega)
  unfold rhP
  rw [decide_eq_true_iff, rh_2 hM, rh_2 hM, rh_2 hM, rh_2 hM, x1, x2, y1, y2]
  exact EQ_mk wb wc
theorem bool_f {b : Bool} {P : Prop} (h : b = true ↔ P) (hn : ¬ P) : b = false := by
  cases b with
  | false => rfl
  | true => exact absurd (h.mp rfl) hn
theorem ring_MF {N M : Nat} {τ : xS} (hN : N ≤ 6) (hM : M = 400) : MFr N τ (rhZ τ) := by
  rw [rhZ_e hM]
  refine back_ok hN (fun a c q q2 => ?_) (fun c => ?_)
  · show (rqU (bgM τ) M).1 a c = _
    rw [rqU_1, gbM_o (by omega)]
  · unfold rqW
    rw [xJ_ne _ _ _ (by omega), xJ_ne _ _ _ (by omega), rqU_27]
    rfl
theorem FR_ryW {τ : xS} {i : Nat} : FR τ (ryW τ i) := ⟨fun _ _ _ => rfl, fun a b q1 q2 q3 => by unfold ryW; rw [xJ_ne _ _ _ q3, xJ_ne _ _ _ q2]⟩
theorem FR_ryS {σ : xS} (h : FR σ (thX σ 0)) (h6 : tn (σ.1 100 2) ≤ 6) : ∀ i, FR σ (ryS σ i)
  | 0 => h
  | i + 1 => by
    rw [← ryS_s]
    refine FR_t (FR_ryS h h6 i) (FR_t (FR_ryW (i := i)) ?_)
    have := FR_gb (σ := ryW (ryS σ i) i) (by rw [ryW_k, ryS_k]; exact h6) 1
    exact this
theorem ring_ok {G N M : Nat} {σ τ : xS} (hM : M = 400) (h : RRn G N σ τ) (x : Int32) : OKp (if xfs (ryE σ) (M + 1) < M + 1 then ((if x = 0 then ryV σ (xfs (ryE σ) (M + 1)) else nI (xfs (ryE σ) (M + 1)) - ryV σ (xfs (ryE σ) (M + 1))), ryW (ryS σ (xfs (ryE σ) (M + 1))) (xfs (ryE σ) (M + 1))) else noX (ryS σ (M + 1)) (-6)) (if xfs (rhE (rhZ τ)) M < M then (rhV (rhZ τ) x (xfs (rhE (rhZ τ)) M), rhZ τ) else noM (rhZ τ) (-6)) := by
  obtain ⟨⟨hG, hN⟩, ⟨c1, c2⟩, ⟨c3, c4⟩⟩ := RRn_G h
  obtain ⟨tT, tW⟩ := th_b h 0
  have tT : TW 200 G N (thX σ 0) (bgM τ).1 := tT
  have tW : WF G N (bgM τ).1 := tW
  have hF := FR_ryS (FR_th0 h 0) (by rw [c3, tn_nI (by omega)]; exact hN)
  have hMF := ring_MF (τ := τ) hN hM
  have hrel : ∀ i, RRn G N (ryS σ i) (rhZ τ) := fun i => RRn_f (XF_FR (hF i)) hMF h
  have hrel2 : ∀ i, RRn G N (ryW (ryS σ i) i) (rhZ τ) := fun i => RRn_f (XF_FR (FR_t (hF i) FR_ryW)) hMF h
  obtain ⟨E, hE⟩ : ∃ E : Nat → Nat → Prop, E = fun b c => EQ N (gbM b (bgM τ)).1 (gbM c (bgM τ)).1 := ⟨_, rfl⟩
  have sbE : ∀ i j, j < i → (sbP (ryW (ryS σ i) i) i j = true ↔ E j i) := fun i j hj => by rw [hE]; exact sb_E tT tW hj
  have rhE' : ∀ b c, b ≤ M → c ≤ M → (rhP (rhZ τ) b c = true ↔ E b c) := fun b c hb hc => by rw [hE]; exact rhP_E hM tT tW hb hc
  have hs : ∀ b c, E b c → E c b := by rw [hE]; exact fun b c q => EQ_sym q
  have ht : ∀ a b c, E a b → E b c → E a c := by rw [hE]; exact fun a b c q1 q2 => EQ_tr q1 q2
  have hn : ∀ b c, E b c → E (b + 1) (c + 1) := by rw [hE]; exact fun b c q => EQ_step tT tW q
  clear hE
  have hV : ∀ i, (ryV σ i = -1 ∧ ∀ j, j < i → ¬ E j i) ∨ (∃ j, j < i ∧ E j i ∧ (∀ j', j' < j → ¬ E j' i) ∧ ryV σ i = nI j) := fun i => by
    have hle := xfs_le (sbP (ryW (ryS σ i) i) i) i
    have hb := xfs_b (P := sbP (ryW (ryS σ i) i) i) (n := i)
    rcases Nat.lt_or_ge (xfs (sbP (ryW (ryS σ i) i) i) i) i with z | z
    · refine Or.inr ⟨_, z, (sbE i _ z).mp (hb.2 z), fun j' hj' q => ?_, if_pos z⟩
      have := hb.1 j' hj'
      rw [(sbE i j' (by omega)).mpr q] at this
      exact absurd this (by decide)
    · refine Or.inl ⟨if_neg (Nat.not_lt.mpr z), fun j hj q => ?_⟩
      have := hb.1 j (by omega)
      rw [(sbE i j hj).mpr q] at this
      exact absurd this (by decide)
  have hRE : ∀ i, i ≤ M → (ryE σ i = true ↔ ∃ j, j < i ∧ E j i) := fun i hi => by
    unfold ryE
    rw [decide_eq_true_iff]
    rcases hV i with ⟨v1, v2⟩ | ⟨j, j1, j2, j3, j4⟩
    · exact ⟨fun q => absurd v1 q, fun ⟨j, j1, j2⟩ => absurd j2 (v2 j j1)⟩
    · exact ⟨fun _ => ⟨j, j1, j2⟩, fun _ => by rw [j4]; exact nm1_nI (by omega)⟩
  have hQ : ∀ b, b ≤ M → (rhE (rhZ τ) b = true ↔ ∃ c, b < c ∧ c ≤ M ∧ E b c) := fun b hb => by
    unfold rhE
    rw [xany_iff, ← hM]
    constructor
    · rintro ⟨k, k1, k2⟩
      exact ⟨b + 1 + k, by omega, by omega, (rhE' b _ hb (by omega)).mp k2⟩
    · rintro ⟨c, q1, q2, q3⟩
      refine ⟨c - (b + 1), by omega, ?_⟩
      unfold rhQ
      rw [show b + 1 + (c - (b + 1)) = c by omega]
      exact (rhE' b c hb q2).mpr q3
  have hb := xfs_b (P := ryE σ) (n := M + 1)
  rcases Nat.lt_or_ge (xfs (ryE σ) (M + 1)) (M + 1) with z | z
  · rw [if_pos z]
    have hi : ∀ i', i' < xfs (ryE σ) (M + 1) → ∀ j', j' < i' → ¬ E j' i' := fun i' q1 j' q2 q3 => by
      have := hb.1 i' q1
      rw [(hRE i' (by omega)).mpr ⟨j', q2, q3⟩] at this
      exact absurd this (by decide)
    have hi2 := (hRE _ (by omega)).mp (hb.2 z)
    generalize xfs (ryE σ) (M + 1) = i at *
    rcases hV i with ⟨v1, v2⟩ | ⟨j, j1, j2, j3, j4⟩
    · obtain ⟨j, j1, j2⟩ := hi2
      exact absurd j2 (v2 j j1)
    · have eN : xfs (rhE (rhZ τ)) M = j := xfs_at (by omega) ((hQ j (by omega)).mpr ⟨i, j1, by omega, j2⟩) (fun b q => bool_f (hQ b (by omega)) (fun ⟨c, d1, d2, d3⟩ => ring_no hs ht hn j1 j2 hi j3 q d1 d3))
      have eI : rhI (rhZ τ) j (M - j) = i - (j + 1) := by
        unfold rhI
        refine xfs_at (by omega) ?_ (fun k q => ?_)
        · unfold rhQ
          rw [show j + 1 + (i - (j + 1)) = i by omega]
          exact (rhE' j i (by omega) (by omega)).mpr j2
        · exact bool_f (rhE' j (j + 1 + k) (by omega) (by omega)) (fun e => hi (j + 1 + k) (by omega) j (by omega) e)
      rw [eN, if_pos (show j < M by omega)]
      refine OKp_i ?_ (hrel2 i)
      show (if x = 0 then ryV σ i else nI i - ryV σ i) = rhV (rhZ τ) x j
      unfold rhV
      rw [j4, ← hM, eI, show j + 1 + (i - (j + 1)) = i by omega]
  · have hi : ∀ i', i' ≤ M → ∀ j', j' < i' → ¬ E j' i' := fun i' q1 j' q2 q3 => by
      have := hb.1 i' (by omega)
      rw [(hRE i' (by omega)).mpr ⟨j', q2, q3⟩] at this
      exact absurd this (by decide)
    have eN : xfs (rhE (rhZ τ)) M = M := xfs_no (fun b q => bool_f (hQ b (by omega)) (fun ⟨c, d1, d2, d3⟩ => hi c d2 b d1 d3))
    rw [if_neg (Nat.not_lt.mpr z), eN, if_neg (Nat.lt_irrefl _)]
    exact no_p rk6 (hrel _)
theorem ok_ring {G N : Nat} {σ τ : xS} (h : RRn G N σ τ) (x : Int32) : OKp (rinX σ x) (ringM τ x) := by
  unfold rinX ringM rhR rhN ryN
  by_cases hx : 0 ≤ x ∧ x ≤ 1
  · rw [if_neg (not_not_intro hx), if_neg (show ¬ (x < 0 ∨ 1 < x) from fun q => (nrg.mpr q) hx)]
    exact ring_ok rfl h x
  · rw [if_pos hx, if_pos (nrg.mp hx)]
    exact no_p rk5 h
