/-! a gait, as it is read -/
def sT (E : Nat) (ℓ : Nat → Int32) (q : Nat) : Int32 := if lC E ℓ q = 102 then 0 else if lC E ℓ q = 108 then 1 else if lC E ℓ q = 114 then 2 else if lC E ℓ q = 115 then 3 else -1
theorem sT_c {E q : Nat} {ℓ : Nat → Int32} (h : ¬ sT E ℓ q = -1) : (tn (sT E ℓ q) < 4 ∧ nI (tn (sT E ℓ q)) = sT E ℓ q) ∧ q < E ∧ ¬ lC E ℓ q = 59 := by
  have hq : q < E := by
    by_cases z : q < E
    · exact z
    · refine absurd ?_ h
      unfold sT lC
      rw [if_neg z, if_neg (by decide), if_neg (by decide), if_neg (by decide), if_neg (by decide)]
  refine ⟨?_, hq, fun e => ?_⟩
  · unfold sT at *
    by_cases h1 : lC E ℓ q = 102
    · rw [if_pos h1]; decide
    · rw [if_neg h1] at *
      by_cases h2 : lC E ℓ q = 108
      · rw [if_pos h2]; decide
      · rw [if_neg h2] at *
        by_cases h3 : lC E ℓ q = 114
        · rw [if_pos h3]; decide
        · rw [if_neg h3] at *
          by_cases h4 : lC E ℓ q = 115
          · rw [if_pos h4]; decide
          · rw [if_neg h4] at h; exact absurd rfl h
  · refine h ?_
    unfold sT
    rw [e, if_neg (by decide), if_neg (by decide), if_neg (by decide), if_neg (by decide)]
theorem stV_c {E a : Nat} {ℓ : Nat → Int32} {S : xS} (hE : E ≤ 160) (ha : a < 1000) (h : RdX E ℓ S) (hp : S.1 2 0 = nI a) : stV S = sT E ℓ a := by
  unfold stV sT
  rw [lth_c hE ha h hp]
theorem saM_c {E b a : Nat} {ℓ : Nat → Int32} {T : xS} (hE : E ≤ 160) (hb : b ≤ 1120) (ha : a < 1000) (h : RdM E b ℓ T) (hp : T.1 0 33 = nI a) : saM T = sT E ℓ a := by
  unfold saM
  have hl := lt_33 hE ha h hp
  by_cases q : a < E
  · rw [if_neg (not_not_intro (hl.mpr q)), lhM_c hE hb q h hp]
    rfl
  · rw [if_pos (fun z => q (hl.mp z))]
    refine Eq.symm (Classical.byContradiction (fun z => q (sT_c z).2.1))
theorem gp_p {a : Nat} {S : xS} (hp : S.1 2 0 = nI a) : ∀ {i : Nat}, (gpS S i).1 2 0 = nI (a + i)
  | 0 => hp
  | i + 1 => by rw [gpS, xI_s, gp_p hp, nI_1]; rfl
theorem le_p {a : Nat} {T : xS} (hp : T.1 0 33 = nI a) : ∀ {i : Nat}, (leS T i).1 0 33 = nI (a + i)
  | 0 => by rw [← leS_0, xI_n (by omega)]; exact hp
  | i + 1 => by rw [← leS_s, xI_s, le_p hp, nI_1]; rfl
theorem le_2 {T : xS} : ∀ {i : Nat}, (leS T i).2 = T.2
  | 0 => rfl
  | i + 1 => le_2 (i := i)
theorem le_M {E b i : Nat} {ℓ : Nat → Int32} {T : xS} (h : RdM E b ℓ T) : RdM E b ℓ (leS T i) := RdM_v (leS_o (by omega)) (leS_o (by omega)) le_2 h
theorem gpE_c {E a i : Nat} {ℓ : Nat → Int32} {S : xS} (hE : E ≤ 160) (ha : a + i < 1000) (h : RdX E ℓ S) (hp : S.1 2 0 = nI a) : gpE S i = decide (sT E ℓ (a + i) = -1) := by
  unfold gpE
  rw [stV_c hE ha (RdX_k gpS_k h) (gp_p hp)]
theorem leE_c {E b a i : Nat} {ℓ : Nat → Int32} {T : xS} (hE : E ≤ 160) (hb : b ≤ 1120) (ha : a + i < 1000) (h : RdM E b ℓ T) (hp : T.1 0 33 = nI a) : leE T i = decide (sT E ℓ (a + i) = -1) := by
  unfold leE
  rw [saM_c hE hb ha (le_M h) (le_p hp)]
theorem le_31 {E b a : Nat} {ℓ : Nat → Int32} {T : xS} (hE : E ≤ 160) (hb : b ≤ 1120) (ha : a < 500) (h : RdM E b ℓ T) (hp : T.1 0 33 = nI a) : ∀ {m j : Nat}, m < 100 → j < m → (leS T m).1 31 j = sT E ℓ (a + j)
  | m + 1, j, hm, hj => by
    rw [← leS_s, xI_n (by omega), xI_n (by omega), leS_36, tn_nI (by omega)]
    by_cases e : j = m
    · rw [e, xI_s]; exact saM_c hE hb (by omega) (le_M h) (le_p hp)
    · rw [xI_n (by omega)]; exact le_31 hE hb ha h hp (by omega) (by omega)
theorem gl_7 {G : Nat} {S : xS} (hG : tn (S.1 0 0) = G) : ∀ {n j : Nat}, j < n → (glS S n).1 7 (8 * G + j) = S.1 31 j
  | n + 1, j, hj => by
    rw [← glS_s, hG]
    by_cases e : j = n
    · rw [e, xI_s]
    · rw [xI_n (by omega)]; exact gl_7 hG (by omega)
theorem gl_7o {G c : Nat} {S : xS} (hG : tn (S.1 0 0) = G) (hc : c < 8 * G) : ∀ {n : Nat}, (glS S n).1 7 c = S.1 7 c
  | 0 => rfl
  | n + 1 => by rw [← glS_s, hG, xI_n (by omega)]; exact gl_7o hG hc
theorem gl_2 {S : xS} : ∀ {n : Nat}, (glS S n).2 = S.2
  | 0 => rfl
  | n + 1 => gl_2 (n := n)
theorem itL_o {S : xS} {a c : Nat} (h : a ≠ 7 ∧ a ≠ 8 ∧ a ≠ 9) (h2 : a ≠ 0 ∨ c ≠ 0) : (itL S).1 a c = S.1 a c := by
  unfold itL
  rw [xI_n (by omega), xI_n (by omega), xI_n (by omega), glS_o (by omega)]
theorem itL_2 {S : xS} : (itL S).2 = S.2 := by
  unfold itL
  show (glS S _).2 = _
  rw [gl_2]
theorem adG_o {σ : xS} {G c b : Nat} {n a s : Int32} (hG : σ.1 400 1 = nI G) (h8 : G < 8) (h1 : c ≠ 400 + 10 + G) (h2 : c ≠ 400 ∨ b ≠ 1) : (adG σ 400 n a s).1 c b = σ.1 c b := by
  unfold adG
  rw [hG, tn_nI (by omega), xI_n (by omega), xI_n (by omega), xI_n (by omega), xI_n (by omega)]
/-- the gait itself, put behind the others -/
theorem TA_letters {E G N m n d : Nat} {ℓ : Nat → Int32} {S U : xS} (hG : G < 8) (hA : TA 400 G N S U.1) (hm : 1 ≤ m ∧ m ≤ 8) (hn : n ≤ 2) (h36 : U.1 0 36 = nI m) (h30 : U.1 30 0 = nI n) (h31 : ∀ j, j < m → U.1 31 j = sT E ℓ (d + j)) (hs : ∀ j, j < m → ¬ sT E ℓ (d + j) = -1) {P : Nat → Int32} (hP0 : P 0 = 0) (hP : ∀ i, i < m → P (i + 1) = P i ||| xshl (sT E ℓ (d + i)) (2 * nI i)) : TA 400 (G + 1) N (adG S 400 (nI m) (nI n) (P m)) (itL U).1 := by
  have c1 : S.1 400 1 = nI G := hA.1.1.1.1
  have c2 : U.1 0 0 = nI G := hA.1.2.1.2.2.1
  have tG : tn (U.1 0 0) = G := by rw [c2, tn_nI (by omega)]
  have tm : tn (U.1 0 36) = m := by rw [h36, tn_nI (by omega)]
  refine TA_gait (l := m) (a := n) (st := fun j => tn (sT E ℓ (d + j))) hA hG hm (by omega) (fun j hj => (sT_c (hs j hj)).1.1) (fun c b q q2 => adG_o c1 hG q q2) rfl ?_ ?_ (fun j hj => ?_) ?_ (fun c b q q2 => ?_) ?_ ?_ ?_ (fun j hj => ?_)
  · unfold adG; rw [c1, tn_nI (by omega), xI_n (by omega), xI_n (by omega), xI_n (by omega), xI_s]
  · unfold adG; rw [c1, tn_nI (by omega), xI_n (by omega), xI_n (by omega), xI_s]
  · have e2 : (adG S 400 (nI m) (nI n) (P m)).1 (400 + 10 + G) 2 = P m := by unfold adG; rw [c1, tn_nI (by omega), xI_n (by omega), xI_s]
    rw [e2]
    exact unpack_ok (P := P) (st := fun j => tn (sT E ℓ (d + j))) hm.2 hP0 (fun i hi => by rw [(sT_c (hs i hi)).1.2]; exact hP i hi) (fun i hi => (sT_c (hs i hi)).1.1) (Nat.le_refl _) hj
  · unfold adG; rw [xI_s, c1, nI_1]
  · by_cases c7 : c = 7
    · rw [c7]
      unfold itL
      rw [xI_n (by omega), xI_n (by omega), xI_n (by omega), gl_7o tG (by omega)]
    · by_cases c89 : c = 8 ∨ c = 9
      · unfold itL
        rw [tG, xI_n (by omega), xI_n (by omega), xI_n (by omega), glS_o (by omega)]
      · exact itL_o (by omega) q2
  · unfold itL; rw [xI_s, c2, nI_1]
  · unfold itL; rw [tG, xI_n (by omega), xI_n (by omega), xI_s]; exact h36
  · unfold itL; rw [tG, xI_n (by omega), xI_s]; exact h30
  · unfold itL
    rw [xI_n (by omega), xI_n (by omega), xI_n (by omega), tm, gl_7 tG hj, h31 j hj]
    exact (sT_c (hs j hj)).1.2.symm
theorem body_gait {E b G N a : Nat} {ℓ : Nat → Int32} {S T : xS} (hE : E ≤ 160) (hb : b ≤ 1120) (hG : G < 8) (hA : TA 400 G N S T.1) (hX : RdX E ℓ S) (hM : RdM E b ℓ T) (hp : S.1 2 0 = nI a) (hq : T.1 0 33 = nI (a + 1)) (h32 : lC E ℓ a = 32) : BO E b ℓ N a (rgV S) (rgS S) (itY (nuF T 0 1) 0) := by
  have ha := lC_lt h32 (by decide)
  have dE : rdE T (nuF T 0 1).2 := nuF_e rdE_r
  have hn := N2 (i := 0) (k := 0) (lo := 0) (hi := 2) (X := fun _ => True) (F := (1, T)) hE hb (by omega) hX hp hM rfl (Or.inl ⟨rfl, h32, hq⟩) (fun U n hU hn he => by
    unfold soM
    rw [if_pos rfl, decide_eq_true_iff, he]
    exact ⟨fun q => ⟨⟨nI_pos' (by omega), q⟩, trivial⟩, fun q => q.1.2⟩)
  rw [nuF_1] at *
  rcases hn with ⟨f1, p, f2, f3⟩ | ⟨f1, n, c, g1, g2, g3, g4, g5, g6, g7, g8, g9, g10⟩
  · rw [itY_0 f1]
    rcases f3 with ⟨h1, h2⟩ | ⟨n, h1, h2, h3, h4, h5⟩
    · exact BO_f rfl f2 (by unfold rgV; rw [if_pos h1]) (by unfold rgS; rw [if_pos h1]; exact h2)
    · exact absurd trivial h4
  rw [itY_1 f1]
  have hn2 : n ≤ 2 := by have := (nI_leI (a := n) (b := 2) (by omega) (by omega)).mp g2.2; exact this
  have v1 : ¬ rnV S 0 2 = -1 := by rw [g3]; exact nn1 g1
  have X2 := RdX_k (E := E) (ℓ := ℓ) (rnS_k (σ := S) (a := 0) (b := 2)) hX
  have hl := lth_c hE (show c < 1000 by omega) X2 g5
  have eZ : itZ (nuG (1, T) 0 0).2 0 = itG (blkM (nuG (1, T) 0 0).2) := by unfold itZ; rw [if_pos rfl]
  rw [eZ, blk_c hE hb (by omega) g9 g7]
  by_cases hc : lC E ℓ c = 32
  · rw [if_pos hc]
    have r1 : rsV (rnS S 0 2) 32 = 1 := by unfold rsV; rw [hl, if_pos hc]
    have r1n : ¬ rsV (rnS S 0 2) 32 = 0 := by rw [r1]; decide
    have kR : kp2 S (rg1 S) := kp2_t rnS_k rsS_k
    have p3 : (rg1 S).1 2 0 = nI (c + 1) := by unfold rg1 rsS; rw [hl, if_pos hc, xI_s, g5, nI_1]
    have X3 := RdX_k kR hX
    have eG : itG (1, xI (nuG (1, T) 0 0).2 0 33 (nI (c + 1))) = itH (letM (xI (nuG (1, T) 0 0).2 0 33 (nI (c + 1)))) := by unfold itG; rw [if_neg (show ¬ (1 : Int32) = 0 by decide)]
    rw [eG]
    have M3 : RdM E b ℓ (xI (nuG (1, T) 0 0).2 0 33 (nI (c + 1))) := RdM_i (by omega) g9
    have q3 : (xI (nuG (1, T) 0 0).2 0 33 (nI (c + 1))).1 0 33 = nI (c + 1) := xI_s
    have d3 : rdE T (xI (nuG (1, T) 0 0).2 0 33 (nI (c + 1))) := rdE_0 dE (by omega)
    have e30 : (xI (nuG (1, T) 0 0).2 0 33 (nI (c + 1))).1 30 0 = nI n := by rw [xI_n (by omega)]; exact g8
    generalize xI (nuG (1, T) 0 0).2 0 33 (nI (c + 1)) = T3 at *
    obtain ⟨Q, hQ⟩ : ∃ Q : Nat → Bool, Q = fun i => decide (sT E ℓ (c + 1 + i) = -1) := ⟨_, rfl⟩
    have hgp : gpE (rg1 S) = fun i => gpE (rg1 S) i := rfl
    have eg8 : gpN (rg1 S) = xfs Q 8 := by unfold gpN; exact xfs_congr (fun i hi => by rw [gpE_c hE (by omega) X3 p3, hQ])
    have el9 : leN T3 = xfs Q 9 := by unfold leN; exact xfs_congr (fun i hi => by rw [leE_c hE hb (by omega) M3 q3, hQ])
    obtain ⟨b1, b2⟩ := xfs_b (P := Q) (n := 9)
    have hQf : ∀ j, Q j = false → ¬ sT E ℓ (c + 1 + j) = -1 := fun j hj => by rw [hQ] at hj; exact of_decide_eq_false hj
    have hle := xfs_le Q 9
    have sub : ∀ m, m ≤ 8 → (∀ j, j < m → Q j = false) → 1 ≤ m → c + 1 + m ≤ E ∧ TA 400 (G + 1) N (adG (gpS (rg1 S) m) 400 (nI m) (nI n) (gpT (rg1 S) m)) (itL (leS T3 m)).1 := fun m hm hj h1 => by
      have hE2 := (sT_c (hQf (m - 1) (hj _ (by omega)))).2.1
      refine ⟨by omega, ?_⟩
      have kk : kp2 S (gpS (rg1 S) m) := kp2_t kR gpS_k
      have dd : rdE T (leS T3 m) := leS_e d3
      exact TA_letters (E := E) (ℓ := ℓ) (d := c + 1) hG (TA_rd kk dd hA) ⟨h1, hm⟩ hn2 leS_36 (by rw [leS_o (by omega)]; exact e30) (fun j hj' => le_31 hE hb (by omega) M3 q3 (by omega) hj') (fun j hj' => hQf j (hj j hj')) rfl (fun i hi => by
        show gpT (rg1 S) i ||| xshl (stV (gpS (rg1 S) i)) (2 * nI i) = _
        rw [stV_c hE (by omega) (RdX_k gpS_k X3) (gp_p p3)])
    have xS3 : ∀ m, m ≤ 8 → RdX E ℓ (adG (gpS (rg1 S) m) 400 (nI m) (rnV S 0 2) (gpT (rg1 S) m)) ∧ (adG (gpS (rg1 S) m) 400 (nI m) (rnV S 0 2) (gpT (rg1 S) m)).1 2 0 = nI (c + 1 + m) := fun m hm => by
      have cG : (gpS (rg1 S) m).1 400 1 = nI G := by rw [(kp2_t kR gpS_k).1 400 1 (by omega)]; exact hA.1.1.1.1
      exact ⟨RdX_o (fun b => adG_o cG hG (by omega) (by omega)) (fun b => adG_o cG hG (by omega) (by omega)) (RdX_k gpS_k X3), by rw [adG_o cG hG (by omega) (by omega)]; exact gp_p p3⟩
    rcases Nat.lt_or_ge (xfs Q 9) 9 with z | z
    · rcases Nat.eq_zero_or_pos (xfs Q 9) with z0 | z0
      · have eL : letM T3 = (0, xI (leS T3 0) 0 37 (T3.1 0 33)) := by unfold letM; rw [el9, if_pos z, if_pos z0]
        have g0 : gpN (rg1 S) = 0 := by
          rw [eg8]
          rw [z0] at b2
          exact xfs_at (by omega) (b2 (by omega)) (fun j hj => absurd hj (Nat.not_lt_zero _))
        rw [eL]
        have eH : itH (0, xI (leS T3 0) 0 37 (T3.1 0 33)) = (0, xI (leS T3 0) 0 37 (T3.1 0 33)) := by unfold itH; rw [if_pos rfl]
        rw [eH]
        exact BO_f rfl (xI_s.trans q3) (by unfold rgV; rw [if_neg v1, if_neg r1n, if_pos g0]) (by unfold rgS; rw [if_neg v1, if_neg r1n, if_pos g0]; exact p3)
      · have eL : letM T3 = (1, leS T3 (xfs Q 9)) := by unfold letM; rw [el9, if_pos z, if_neg (by omega)]
        have g0 : gpN (rg1 S) = xfs Q 9 := by
          rw [eg8]
          rcases Nat.lt_or_ge (xfs Q 9) 8 with y | y
          · exact xfs_at y (b2 z) b1
          · have e8 : xfs Q 9 = 8 := by omega
            rw [e8] at b1 ⊢
            exact xfs_no b1
        rw [eL]
        have eH : itH (1, leS T3 (xfs Q 9)) = (1, itL (leS T3 (xfs Q 9))) := by unfold itH; rw [if_neg (show ¬ (1 : Int32) = 0 by decide)]
        rw [eH]
        obtain ⟨s1, s2⟩ := sub _ (by omega) b1 z0
        obtain ⟨s3, s4⟩ := xS3 _ (show xfs Q 9 ≤ 8 by omega)
        have eS : rgS S = adG (gpS (rg1 S) (xfs Q 9)) 400 (nI (xfs Q 9)) (rnV S 0 2) (gpT (rg1 S) (xfs Q 9)) := by unfold rgS; rw [if_neg v1, if_neg r1n, g0, if_neg (by omega)]
        rw [eS]
        refine Or.inr ⟨rfl, G + 1, N, c + 1 + xfs Q 9, ⟨by omega, s1, Nat.le_refl _⟩, ?_, s4, ?_, ⟨s3, ?_⟩, ?_⟩
        · unfold rgV; rw [if_neg v1, if_neg r1n, g0, if_neg (by omega)]
        · show (itL _).1 0 33 = _
          rw [itL_o (by omega) (by omega)]; exact le_p q3
        · exact RdM_v (itL_o (by omega) (by omega)) (itL_o (by omega) (by omega)) itL_2 (le_M M3)
        · rw [g3]; exact s2
    · have e9 : xfs Q 9 = 9 := by omega
      rw [e9] at b1
      have eL : letM T3 = (0, xI (leS T3 8) 0 37 ((leS T3 8).1 0 33)) := by unfold letM; rw [el9, if_neg (by omega)]
      have g0 : gpN (rg1 S) = 8 := by rw [eg8]; exact xfs_no (fun j hj => b1 j (by omega))
      rw [eL]
      have eH : itH (0, xI (leS T3 8) 0 37 ((leS T3 8).1 0 33)) = (0, xI (leS T3 8) 0 37 ((leS T3 8).1 0 33)) := by unfold itH; rw [if_pos rfl]
      rw [eH]
      obtain ⟨s3, s4⟩ := xS3 8 (by omega)
      have eS : rgS S = adG (gpS (rg1 S) 8) 400 (nI 8) (rnV S 0 2) (gpT (rg1 S) 8) := by unfold rgS; rw [if_neg v1, if_neg r1n, g0, if_neg (by omega)]
      have hst := sT_c (hQf 8 (b1 8 (by omega)))
      rw [eS]
      refine Or.inl ⟨rfl, c + 1 + 8, xI_s.trans (le_p q3), Or.inr ⟨?_, s4, s3, hst.2.1, hst.2.2⟩⟩
      unfold rgV; rw [if_neg v1, if_neg r1n, g0, if_neg (by omega)]
  · rw [if_neg hc]
    have r0 : rsV (rnS S 0 2) 32 = 0 := by unfold rsV; rw [hl, if_neg hc]
    have eG : itG (0, xI (nuG (1, T) 0 0).2 0 37 (nI c)) = (0, xI (nuG (1, T) 0 0).2 0 37 (nI c)) := by unfold itG; rw [if_pos rfl]
    rw [eG]
    exact BO_f rfl xI_s (by unfold rgV; rw [if_neg v1, if_pos r0]) (by unfold rgS; rw [if_neg v1, if_pos r0]; unfold rg1 rsS; rw [hl, if_neg hc]; exact g5)
