/-! an item, class and reference -/
def ITR (E b : Nat) (ℓ : Nat → Int32) (N a : Nat) (X R : Int32 × xS) : Prop := (R.1 = 0 ∧ ∃ p, R.2.1 0 37 = nI p ∧ X.1 = 0 ∧ X.2.1 2 1 = 0 ∧ X.2.1 2 0 = nI p) ∨ (R.1 = 1 ∧ ∃ G' N' c, (a < c ∧ c ≤ E ∧ N ≤ N') ∧ R.2.1 0 33 = nI c ∧ TA 400 G' N' X.2 R.2.1 ∧ (RdX E ℓ X.2 ∧ RdM E b ℓ R.2) ∧ ((c = E ∧ X.1 = 0 ∧ X.2.1 2 1 = 1) ∨ (c < E ∧ lC E ℓ c = 59 ∧ X.1 = 1 ∧ X.2.1 2 1 = 0 ∧ X.2.1 2 0 = nI (c + 1)) ∨ (c < E ∧ ¬ lC E ℓ c = 59 ∧ X.1 = 0 ∧ X.2.1 2 1 = 0 ∧ X.2.1 2 0 = nI c)))
theorem ITR_f {E b N a p : Nat} {ℓ : Nat → Int32} {X R : Int32 × xS} (h1 : R.1 = 0) (h2 : R.2.1 0 37 = nI p) (h3 : X.1 = 0) (h4 : X.2.1 2 1 = 0) (h5 : X.2.1 2 0 = nI p) : ITR E b ℓ N a X R := Or.inl ⟨h1, p, h2, h3, h4, h5⟩
theorem rdE_2 {S S' : xS} (h : kp2 S S') {G N : Nat} {v : Nat → Nat → Int32} (hA : TA 400 G N S v) : TA 400 G N S' v := TA_c (fun a b q1 q2 => h.1 a b (by omega)) (by rw [h.2.2]) hA
/-- the sign behind an item -/
theorem sign_c {E c : Nat} {ℓ : Nat → Int32} {v : Int32} {S : xS} (hE : E ≤ 160) (hc : c ≤ E) (hX : RdX E ℓ S) (hp : S.1 2 0 = nI c) : (lC E ℓ c = 59 ∧ rsV (xI S 2 1 v) 59 = 1 ∧ (rsS (xI S 2 1 v) 59).1 2 1 = v ∧ (rsS (xI S 2 1 v) 59).1 2 0 = nI (c + 1)) ∨ (¬ lC E ℓ c = 59 ∧ rsV (xI S 2 1 v) 59 = 0 ∧ (rsS (xI S 2 1 v) 59).1 2 1 = v ∧ (rsS (xI S 2 1 v) 59).1 2 0 = nI c) := by
  have X1 := RdX_k (E := E) (ℓ := ℓ) (kp2_i (σ := S) (f := 1) (v := v) (by decide)) hX
  have p1 : (xI S 2 1 v).1 2 0 = nI c := by rw [xI_n (by omega)]; exact hp
  have hl := lth_c hE (show c < 1000 by omega) X1 p1
  have e1 : (xI S 2 1 v).1 2 1 = v := xI_s
  unfold rsV rsS
  rw [hl]
  by_cases q : lC E ℓ c = 59
  · rw [if_pos q, if_pos q]
    exact Or.inl ⟨q, rfl, by rw [xI_n (by omega)]; exact e1, by rw [xI_s, p1, nI_1]⟩
  · rw [if_neg q, if_neg q]
    exact Or.inr ⟨q, rfl, e1, p1⟩
theorem tl_0 {S : xS} : tlX 0 S = (0, xI S 2 1 0) := by unfold tlX; rw [if_pos rfl]
theorem tl_1 {E c : Nat} {ℓ : Nat → Int32} {S : xS} (hE : E ≤ 160) (hc : c ≤ E) (hX : RdX E ℓ S) (hp : S.1 2 0 = nI c) : tlX 1 S = if c < E then (rsV (xI S 2 1 0) 59, rsS (xI S 2 1 0) 59) else (rsV (xI S 2 1 1) 59, rsS (xI S 2 1 1) 59) := by
  have e : S.1 2 0 < S.1 2 2 ↔ c < E := by rw [hp, hX.1]; exact nI_ltI (by omega) (by omega)
  unfold tlX
  rw [if_neg (by decide)]
  by_cases q : c < E
  · rw [if_pos (e.mpr q), if_pos q]
  · rw [if_neg (fun z => q (e.mp z)), if_neg q]
theorem tl_k {S : xS} {v : Int32} : kp2 S (rsS (xI S 2 1 v) 59) := kp2_t (kp2_i (by decide)) rsS_k
theorem BO_IT {E b N a : Nat} {ℓ : Nat → Int32} {V : Int32} {S' : xS} {R : Int32 × xS} (hE : E ≤ 160) (h : BO E b ℓ N a V S' R) : ITR E b ℓ N a (tlX V S') R := by
  rcases h with ⟨h1, p, h2, ⟨h3, h4⟩ | ⟨h3, h4, h5, h6, h7⟩⟩ | ⟨h1, G', N', c, ⟨g1, g2, g3⟩, h3, h4, h5, ⟨h6, h7⟩, h8⟩
  · rw [h3, tl_0]
    exact ITR_f h1 h2 rfl xI_s (by show (xI S' 2 1 0).1 2 0 = _; rw [xI_n (by omega)]; exact h4)
  · rw [h3, tl_1 hE (by omega) h5 h4, if_pos h6]
    rcases sign_c (v := 0) hE (by omega) h5 h4 with ⟨q, -⟩ | ⟨q, s1, s2, s3⟩
    · exact absurd q h7
    · exact ITR_f h1 h2 s1 s2 s3
  · rw [h3, tl_1 hE g2 h6 h4]
    by_cases hc : c < E
    · rw [if_pos hc]
      rcases sign_c (v := 0) hE g2 h6 h4 with ⟨q, s1, s2, s3⟩ | ⟨q, s1, s2, s3⟩
      · exact Or.inr ⟨h1, G', N', c, ⟨g1, g2, g3⟩, h5, rdE_2 tl_k h8, ⟨RdX_k tl_k h6, h7⟩, Or.inr (Or.inl ⟨hc, q, s1, s2, s3⟩)⟩
      · exact Or.inr ⟨h1, G', N', c, ⟨g1, g2, g3⟩, h5, rdE_2 tl_k h8, ⟨RdX_k tl_k h6, h7⟩, Or.inr (Or.inr ⟨hc, q, s1, s2, s3⟩)⟩
    · rw [if_neg hc]
      have hce : c = E := by omega
      rcases sign_c (v := 1) hE g2 h6 h4 with ⟨q, s1, s2, s3⟩ | ⟨q, s1, s2, s3⟩
      · exact absurd (lC_lt q (by decide)) hc
      · exact Or.inr ⟨h1, G', N', c, ⟨g1, g2, g3⟩, h5, rdE_2 tl_k h8, ⟨RdX_k tl_k h6, h7⟩, Or.inl ⟨hce, s1, s2⟩⟩
/-- a word without a blank behind it: nothing told -/
theorem no_blank {E c w : Nat} {ℓ : Nat → Int32} {S : xS} (hE : E ≤ 160) (hc : c ≤ E) (hX : RdX E ℓ S) (hp : S.1 2 0 = nI c) (h32 : ¬ lC E ℓ c = 32) (hw : w < 5) : itV S (nI w) = 0 ∧ (itS S (nI w)).1 2 0 = nI c := by
  have hn := NUM0 hE (show c < 200 by omega) hX hp h32
  have : w = 0 ∨ w = 1 ∨ w = 2 ∨ w = 3 ∨ w = 4 := by omega
  rcases this with rfl | rfl | rfl | rfl | rfl
  · rw [show nI 0 = 0 from rfl, itV_0 rfl, itS_0 rfl]
    unfold rgV rgS
    rw [if_pos (hn 0 2).1, if_pos (hn 0 2).1]
    exact ⟨rfl, (hn 0 2).2⟩
  · rw [show nI 1 = 1 from rfl, itV_1 rfl, itS_1 rfl]
    unfold rlV rlS
    rw [if_pos (Or.inl (hn 0 48).1), if_pos (hn 0 48).1]
    exact ⟨rfl, (hn 0 48).2⟩
  · rw [show nI 2 = 2 from rfl, itV_2 rfl, itS_2 rfl]
    unfold roV roS
    rw [if_pos (hn 0 48).1, if_pos (hn 0 48).1]
    exact ⟨rfl, (hn 0 48).2⟩
  · rw [show nI 3 = 3 from rfl, itV_3 rfl, itS_3 rfl]
    unfold wkV wkS
    rw [if_pos (hn 0 6).1, if_pos (hn 0 6).1]
    exact ⟨rfl, (hn 0 6).2⟩
  · rw [show nI 4 = 4 from rfl, itV_4 rfl, itS_4 rfl]
    unfold rbV rbS
    rw [if_pos (hn 1 99).1, if_pos (hn 1 99).1]
    exact ⟨rfl, (hn 1 99).2⟩
theorem im5_0 : itM5 0 = 1 := by unfold itM5; rw [if_neg (by decide)]
theorem im5_1 : itM5 1 = 1 := by unfold itM5; rw [if_neg (by decide)]
theorem im5_2 : itM5 2 = 1 := by unfold itM5; rw [if_neg (by decide)]
theorem im5_3 : itM5 3 = 5 := by unfold itM5; rw [if_pos rfl]
theorem im5_4 : itM5 4 = 1 := by unfold itM5; rw [if_neg (by decide)]
theorem body_all {E b G N a w : Nat} {ℓ : Nat → Int32} {S T : xS} (hE : E ≤ 160) (hb : b ≤ 1120) (hw : w < 5) (hfull : ¬ ((w = 0 ∧ ¬ G < 8) ∨ (w = 3 ∧ ¬ N < 6))) (hA : TA 400 G N S T.1) (hX : RdX E ℓ S) (hM : RdM E b ℓ T) (hp : S.1 2 0 = nI a) (hq : T.1 0 33 = nI (a + 1)) (h32 : lC E ℓ a = 32) : BO E b ℓ N a (itV S (nI w)) (itS S (nI w)) (itY (nuF T (nI w) (itM5 (nI w))) (nI w)) := by
  have : w = 0 ∨ w = 1 ∨ w = 2 ∨ w = 3 ∨ w = 4 := by omega
  rcases this with rfl | rfl | rfl | rfl | rfl
  · rw [show nI 0 = 0 from rfl, itV_0 rfl, itS_0 rfl, im5_0]
    exact body_gait hE hb (by omega) hA hX hM hp hq h32
  · rw [show nI 1 = 1 from rfl, itV_1 rfl, itS_1 rfl, im5_1]
    exact body_wall hE hb hA hX hM hp hq h32
  · rw [show nI 2 = 2 from rfl, itV_2 rfl, itS_2 rfl, im5_2]
    exact body_open hE hb hA hX hM hp hq h32
  · rw [show nI 3 = 3 from rfl, itV_3 rfl, itS_3 rfl, im5_3]
    exact body_walker hE hb (by omega) hA hX hM hp hq h32
  · rw [show nI 4 = 4 from rfl, itV_4 rfl, itS_4 rfl, im5_4]
    exact body_beat hE hb hA hX hM hp hq h32
theorem f_lt : (∀ n, n ≤ 8 → (¬ nI n < 8 ↔ ¬ n < 8) ∧ (nI n = 8 ↔ ¬ n < 8)) ∧ (∀ n, n ≤ 6 → (¬ nI n < 6 ↔ ¬ n < 6) ∧ (nI n = 6 ↔ ¬ n < 6)) ∧ (∀ w, w < 5 → (nI w = 0 ↔ w = 0) ∧ (nI w = 3 ↔ w = 3)) := by decide
theorem ITEM {E b G N a : Nat} {ℓ : Nat → Int32} {S T : xS} (hE : E ≤ 160) (hb : b ≤ 1120) (ha : a ≤ E) (hA : TA 400 G N S T.1) (hX : RdX E ℓ S) (hM : RdM E b ℓ T) (hp : S.1 2 0 = nI a) (hq : T.1 0 33 = nI a) (h1 : S.1 2 1 = 0) : ITR E b ℓ N a (riX S) (itmM T) := by
  obtain ⟨l8, l6, l5⟩ := f_lt
  have hG := hA.1.2.1.1
  have hN := hA.1.2.1.2.1
  have cG : S.1 400 1 = nI G := hA.1.1.1.1
  have cN : S.1 400 2 = nI N := hA.1.1.1.2
  have mG : T.1 0 0 = nI G := hA.1.2.1.2.2.1
  have mN : T.1 0 1 = nI N := hA.1.2.1.2.2.2
  rcases WORD hE hb ha hX hp hM hq with ⟨w1, w2, p, w3, w4⟩ | ⟨w, w1, w2, w3, w4, w5, w6⟩
  · have e1 : itF T = false := xany_f (fun i hi => by unfold itfP; rw [w2 i hi]; rfl)
    have e2 : itmM T = (0, xI T 0 37 (nI p)) := by
      unfold itmM
      rw [if_neg (by rw [e1]; decide), w4]
      unfold itX
      rw [if_pos rfl]
    have e3 : itR S = false := by
      unfold itR
      rw [w1]
      exact decide_eq_false (fun q => q.elim (fun z => absurd z.1 (by decide)) (fun z => absurd z.1 (by decide)))
    have e4 : riX S = (0, xI (rwS S) 2 1 0) := by
      unfold riX
      rw [if_neg (by rw [e3]; decide), w1, itV_5 (by decide) (by decide) (by decide) (by decide) (by decide), itS_5 (by decide) (by decide) (by decide) (by decide) (by decide), tl_0]
    rw [e2, e4]
    exact ITR_f rfl xI_s rfl xI_s (by show (xI (rwS S) 2 1 0).1 2 0 = _; rw [xI_n (by omega)]; exact w3)
  · have hR : itR S = true ↔ ((w = 0 ∧ ¬ G < 8) ∨ (w = 3 ∧ ¬ N < 6)) := by
      unfold itR
      rw [decide_eq_true_iff, w2, cG, cN, (l5 w w1).1, (l5 w w1).2, (l8 G hG).1, (l6 N hN).1]
    have hfu : ((nI w = 0 ∧ T.1 0 0 = 8) ∨ (nI w = 3 ∧ T.1 0 1 = 6)) ↔ ((w = 0 ∧ ¬ G < 8) ∨ (w = 3 ∧ ¬ N < 6)) := by rw [mG, mN, (l5 w w1).1, (l5 w w1).2, (l8 G hG).2, (l6 N hN).2]
    have hF : itF T = true ↔ ((w = 0 ∧ ¬ G < 8) ∨ (w = 3 ∧ ¬ N < 6)) := by
      unfold itF
      rw [xany_iff, ← hfu]
      constructor
      · rintro ⟨i, hi, hh⟩
        unfold itfP at hh
        rw [w3 i hi] at hh
        by_cases e : i = w
        · subst e
          rw [decide_eq_true rfl, Bool.true_and] at hh
          exact of_decide_eq_true hh
        · rw [decide_eq_false e, Bool.false_and] at hh
          exact absurd hh (by decide)
      · intro hh
        refine ⟨w, w1, ?_⟩
        unfold itfP
        rw [w3 w w1, decide_eq_true rfl, Bool.true_and]
        exact decide_eq_true hh
    have wp5 := (wcF w w1).1.2.2
    by_cases hfull : (w = 0 ∧ ¬ G < 8) ∨ (w = 3 ∧ ¬ N < 6)
    · have e2 : itmM T = (0, xI T 0 37 (nI a)) := by unfold itmM; rw [if_pos (hF.mpr hfull), hq]
      have e4 : riX S = (0, xI (rwS S) 2 0 (nI a)) := by unfold riX; rw [if_pos (hR.mpr hfull), hp]
      have e5 : (rwS S).1 2 1 = S.1 2 1 := by
        unfold rwS
        split <;> rw [xI_n (by omega)]
      rw [e2, e4]
      exact ITR_f rfl xI_s rfl (by show (xI (rwS S) 2 0 (nI a)).1 2 1 = _; rw [xI_n (by omega), e5]; exact h1) xI_s
    · have e4 : riX S = tlX (itV (rwS S) (nI w)) (itS (rwS S) (nI w)) := by
        unfold riX
        rw [if_neg (fun z => hfull (hR.mp z)), w2]
      have X2 := RdX_k (E := E) (ℓ := ℓ) (rwS_k (σ := S)) hX
      have A2 := rdE_2 (rwS_k (σ := S)) hA
      have e6 : itmM T = itX T (wrdM T) := by unfold itmM; rw [if_neg (fun z => hfull (hF.mp z))]
      rw [e4, e6]
      rcases w6 with ⟨h32, eW⟩ | ⟨h32, eW⟩
      · rw [eW]
        have e7 : itX T (nI w, xI T 0 33 (nI (a + wl w))) = itY (nuF (xI T 0 33 (nI (a + wl w))) (nI w) (itM5 (nI w))) (nI w) := by
          unfold itX
          rw [if_neg (nm1_nI (by omega)), if_neg (fun z => hfull (hfu.mp z))]
        rw [e7]
        have dE : rdE T (xI T 0 33 (nI (a + wl w))) := rdE_0 rdE_r (by omega)
        have hBO := body_all (a := a + (wl w - 1)) hE hb w1 hfull (TA_rd kp2_r dE A2) X2 (RdM_i (a := 0) (c := 33) (v := nI (a + wl w)) (by omega) hM) w4 (by rw [xI_s, show a + (wl w - 1) + 1 = a + wl w by omega]) h32
        have hIT := BO_IT hE hBO
        rcases hIT with z | ⟨z1, G', N', c, ⟨y1, y2, y3⟩, z2⟩
        · exact Or.inl z
        · exact Or.inr ⟨z1, G', N', c, ⟨by omega, y2, y3⟩, z2⟩
      · rw [eW]
        have e7 : itX T (-1, xI T 0 37 (nI (a + (wl w - 1)))) = (0, xI T 0 37 (nI (a + (wl w - 1)))) := by unfold itX; rw [if_pos rfl]
        rw [e7]
        obtain ⟨n1, n2⟩ := no_blank hE w5 X2 w4 h32 w1
        rw [n1, tl_0]
        exact ITR_f rfl xI_s rfl xI_s (by show (xI (itS (rwS S) (nI w)) 2 1 0).1 2 0 = _; rw [xI_n (by omega)]; exact n2)
/-! what an item leaves of the reference -/
def MS (T T' : xS) : Prop := (∀ a c, a = 6 ∨ (23 ≤ a ∧ a ≤ 29) ∨ a = 38 ∨ a = 39 ∨ a = 47 → T'.1 a c = T.1 a c) ∧ (∀ c, c = 5 ∨ c = 48 ∨ c = 49 → T'.1 0 c = T.1 0 c) ∧ T'.2 = T.2
theorem MS_r {T : xS} : MS T T := ⟨fun _ _ _ => rfl, fun _ _ => rfl, rfl⟩
theorem MS_t {T U V : xS} (h : MS T U) (h' : MS U V) : MS T V := ⟨fun a c q => (h'.1 a c q).trans (h.1 a c q), fun c q => (h'.2.1 c q).trans (h.2.1 c q), h'.2.2.trans h.2.2⟩
theorem MS_rd {T T' : xS} (h : rdE T T') : MS T T' := ⟨fun a c q => h.1 a c (by omega) (by omega) (by omega), fun c q => h.2.1 c (by omega), h.2.2⟩
theorem MS_itZ {T S : xS} {k : Int32} (h : rdE T S) : MS T (itZ S k).2 := by
  unfold itZ
  split
  · unfold itG
    split
    · dsimp only
      exact MS_rd (blk_e h)
    · unfold itH
      split
      · dsimp only
        exact MS_rd (let_e (blk_e h))
      · dsimp only
        exact MS_t (MS_rd (let_e (blk_e h))) ⟨fun a c q => itL_o (by omega) (by omega), fun c q => itL_o (by omega) (by omega), itL_2⟩
  · split
    · dsimp only
      exact MS_t (MS_rd h) ⟨fun a c q => xI_n (by omega), fun c q => xI_n (by omega), rfl⟩
    · split
      · dsimp only
        exact MS_t (MS_rd h) ⟨fun a c q => xI_n (by omega), fun c q => xI_n (by omega), rfl⟩
      · split
        · dsimp only
          exact MS_t (MS_rd h) ⟨fun a c q => adM_o (by omega) (by omega), fun c q => adM_o (by omega) (by omega), rfl⟩
        · dsimp only
          exact MS_t (MS_rd h) ⟨fun a c q => by unfold goesM; rw [xI_n (by omega), xI_n (by omega), gbM_o (by omega)], fun c q => goes_33 (by omega), by unfold goesM; show (gbM _ _).2 = _; rw [gbM_2]⟩
theorem MS_it {T : xS} : MS T (itmM T).2 := by
  unfold itmM
  split
  · dsimp only
    exact MS_rd (rdE_0 rdE_r (by omega))
  · unfold itX
    split
    · dsimp only
      exact MS_rd wrd_e
    · split
      · dsimp only
        exact MS_rd (rdE_0 wrd_e (by omega))
      · unfold itY
        split
        · dsimp only
          exact MS_rd (nuF_e wrd_e)
        · exact MS_itZ (nuF_e wrd_e)
