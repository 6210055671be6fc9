/-! a beat, side by side: the loud ones -/
theorem beside_ok : ∀ p, p < 49 → ∀ q, q < 49 → (iabs (nI p / 7 - nI q / 7) + iabs (xrem (nI p) 7 - xrem (nI q) 7) = 1 ↔ bsM (nI q) (nI p) = 1) := by decide +kernel
def L5 (B N : Nat) (σ : xS) (v : Nat → Nat → Int32) : Prop := ∀ w, w < N → v 11 w = 5 → (σ.1 (B + 20 + w) 8 = v 41 w ∧ σ.1 (B + 20 + w) 9 = v 42 w ∧ σ.1 (B + 20 + w) 11 = v 43 w) ∧ v 15 w = v 41 w
def WH3 (G N : Nat) (v : Nat → Nat → Int32) : Prop := ∀ w, w < N → ∃ g q t : Nat, (g < G ∧ q < tn (v 8 g) ∧ t < 2) ∧ v 41 w = nI g ∧ v 42 w = nI q ∧ v 43 w = nI t
def I3 (B G N i : Nat) (σ τ : xS) : Prop := (TW B G N σ τ.1 ∧ WF G N τ.1) ∧ (L5 B N σ τ.1 ∧ WH3 G N τ.1) ∧ OW N i τ.1 ∧ MF B N σ τ.1
theorem ld_eq {B G N i j : Nat} {σ τ : xS} (h : I3 B G N i σ τ) (hi : i < N) (hj : j < N) : ldP σ B (B + 20 + i) j = lqP τ i j := by
  obtain ⟨⟨hT, hW⟩, ⟨hH, hWH⟩, hO, hM⟩ := h
  obtain ⟨k, p, d, g, q, t, ⟨b1, b2, b3, b4, b5, b6⟩, e1, e2, e3, e4, e5, e6⟩ := hW.2.2.1 i hi
  obtain ⟨k', p', d', g', q', t', ⟨c1, c2, c3, c4, c5, c6⟩, f1, f2, f3, f4, f5, f6⟩ := hW.2.2.1 j hj
  have hki := hT.2.2.1 i hi
  have hkj := hT.2.2.1 j hj
  have hoi := hO i (Nat.le_refl _) hi
  have tk := tk_eq b1 (x := τ.1 41 i) (y := τ.1 41 j)
  have hb := beside_ok p b2 p' c2
  unfold ldP lqP
  by_cases h5 : τ.1 11 j = 5
  · have hoj := (hH j hj h5).2
    have htk : (tkMb τ i j = true) ↔ (if nI k = 6 then τ.1 41 i < τ.1 41 j else nI k = 0 ∨ nI k = 3 ∨ nI k = 4) := by
      unfold tkMb
      rw [decide_eq_true_iff, e1, tk]
    rw [hkj.1, hki.1, hki.2.1, hkj.2.1, hki.2.2.2.1, hkj.2.2.2.1, e1, e2, f2, hoi, hoj]
    refine decide_eq_decide.mpr ⟨fun q => ⟨q.1, hb.mp q.2.1, htk.mpr q.2.2⟩, fun q => ⟨q.1, hb.mpr q.2.1, htk.mp q.2.2⟩⟩
  · rw [decide_eq_false (fun q => h5 (hkj.1.symm.trans q.1)), decide_eq_false (fun q => h5 q.1)]
theorem ld_5 {B G N i j : Nat} {σ τ : xS} (h : I3 B G N i σ τ) (hi : i < N) (h5 : τ.1 11 i = 5) : ldP σ B (B + 20 + i) j = false := by
  obtain ⟨⟨hT, hW⟩, -⟩ := h
  obtain ⟨k, p, d, g, q, t, ⟨b1, b2, b3, b4, b5, b6⟩, e1, e2, e3, e4, e5, e6⟩ := hW.2.2.1 i hi
  have hk := kd5 k b1 (e1.symm.trans h5)
  unfold ldP
  rw [(hT.2.2.1 i hi).1, e1]
  refine decide_eq_false (fun q => ?_)
  have := q.2.2
  rw [if_neg hk.1] at this
  exact hk.2 this
theorem ph3s {B G N i : Nat} {σ τ : xS} (h : I3 B G N i σ τ) (hi : i < N) : I3 B G N (i + 1) (if σ.1 (B + 20 + i) 7 = 0 then loudX σ B (B + 20 + i) else σ) (p3M N τ i) := by
  have hN6 := h.1.2.1.2.1
  have hG8 := h.1.2.1.1
  have hBN : tn (σ.1 B 2) = N := by rw [h.1.1.1.2, tn_nI (by omega)]
  have keep : I3 B G N (i + 1) σ τ := ⟨h.1, h.2.1, fun w h1 h2 => h.2.2.1 w (by omega) h2, h.2.2.2⟩
  have hm := h.2.2.2 i hi
  unfold p3M
  by_cases h5 : τ.1 11 i = 5
  · have hl : loudX σ B (B + 20 + i) = σ := by
      unfold loudX
      rw [hBN, xfs_no (fun j _ => ld_5 h hi h5), if_neg (Nat.lt_irrefl _)]
    rw [hl, if_pos (Or.inr h5)]
    split <;> exact keep
  · by_cases h7 : τ.1 44 i = 1
    · rw [if_pos (Or.inl h7), hm.1, h7, if_neg (by decide)]
      exact keep
    · have h70 : τ.1 44 i = 0 := hm.2.resolve_right h7
      have c1 : σ.1 (B + 20 + i) 7 = 0 := hm.1.trans h70
      have c2 : ¬ (τ.1 44 i = 1 ∨ τ.1 11 i = 5) := fun q => q.elim h7 h5
      rw [if_pos c1, if_neg c2]
      have hx : xfs (ldP σ B (B + 20 + i)) N = xfs (lqP τ i) N := xfs_congr (fun j hj => ld_eq h hi hj)
      unfold loudX p3B
      rw [hBN, hx]
      generalize hf : xfs (lqP τ i) N = f at *
      by_cases hfN : f < N
      · rw [if_pos hfN, if_pos hfN]
        have hq : lqP τ i f = true := by rw [← hf]; exact xfs_b.2 (by rw [hf]; exact hfN)
        have hq := of_decide_eq_true hq
        have hl5 : τ.1 11 f = 5 := hq.1
        obtain ⟨⟨hT, hW⟩, ⟨hH, hWH⟩, hO, hM⟩ := h
        obtain ⟨⟨h8, h9, h11⟩, h15⟩ := hH f hfN hl5
        obtain ⟨k, p, d, g, q, t, ⟨b1, b2, b3, b4, b5, b6⟩, e1, e2, e3, e4, e5, e6⟩ := hW.2.2.1 i hi
        obtain ⟨g', q', t', ⟨c1, c2, c4⟩, f1, f2, f4⟩ := hWH f hfN
        obtain ⟨k0, k1, k2, k3, k4, k5, k6⟩ := hT.2.2.1 i hi
        have hσ : ∀ a b, a ≠ B + 20 + i → (takeX σ (B + 20 + i) (B + 20 + f)).1 a b = σ.1 a b := fun a b q => takeX_o q
        have hr : ∀ b, b ≠ 3 ∧ b ≠ 4 ∧ b ≠ 5 → (takeX σ (B + 20 + i) (B + 20 + f)).1 (B + 20 + i) b = σ.1 (B + 20 + i) b := fun b q => takeX_r q
        have mo : ∀ a c, (a ≠ 15 ∧ a ≠ 16 ∧ a ≠ 17) ∨ c ≠ i → (toM τ i f).1 a c = τ.1 a c := fun a c q => by
          rcases q with q | q
          · exact toM_o q
          · exact toM_w q
        have s3 : (takeX σ (B + 20 + i) (B + 20 + f)).1 (B + 20 + i) 3 = nI g' := by rw [takeX_3, h8, f1]
        have s4 : (takeX σ (B + 20 + i) (B + 20 + f)).1 (B + 20 + i) 4 = nI q' := by rw [takeX_4, h9, f2]
        have s5 : (takeX σ (B + 20 + i) (B + 20 + f)).1 (B + 20 + i) 5 = if τ.1 11 i = 4 then 1 - nI t' else nI t' := by rw [takeX_5, h11, f4, k0]
        have m15 : (toM τ i f).1 15 i = nI g' := by rw [toM_15, f1]
        have m16 : (toM τ i f).1 16 i = nI q' := by rw [toM_16, f2]
        have m17 : (toM τ i f).1 17 i = if τ.1 11 i = 4 then 1 - nI t' else nI t' := by rw [toM_17, f4]
        obtain ⟨t2, ht2, ht2e⟩ : ∃ t2, t2 < 2 ∧ (if τ.1 11 i = 4 then 1 - nI t' else nI t') = nI t2 := by
          split
          · exact ⟨1 - t', by omega, one_sub c4⟩
          · exact ⟨t', c4, rfl⟩
        rw [ht2e] at s5 m17
        have h2' : (takeX σ (B + 20 + i) (B + 20 + f)).2 B 0 = σ.2 B 0 := rfl
        generalize takeX σ (B + 20 + i) (B + 20 + f) = S' at *
        generalize toM τ i f = U' at *
        have hv17 : ∀ a c, a ≤ 17 → ¬ (11 ≤ a ∧ c = i) → U'.1 a c = τ.1 a c := fun a c q q2 => mo a c (by omega)
        refine ⟨⟨TW_upd hT hG8 hσ h2' hv17 ⟨?_, ?_, ?_, ?_, ?_, ?_, ?_⟩, WF_upd hW hv17 ⟨k, p, d, g', q', t2, ⟨b1, b2, b3, c1, by rw [mo 8 _ (by omega)]; exact c2, ht2⟩, by rw [mo 11 _ (by omega)]; exact e1, by rw [mo 13 _ (by omega)]; exact e2, by rw [mo 14 _ (by omega)]; exact e3, m15, m16, m17⟩⟩, ⟨fun w hw hw5 => ?_, fun w hw => ?_⟩, fun w h1 h2 => ?_, fun w hw => ?_⟩
        · rw [hr 0 (by omega), mo 11 _ (by omega)]; exact k0
        · rw [hr 1 (by omega), mo 13 _ (by omega)]; exact k1
        · rw [hr 2 (by omega), mo 14 _ (by omega)]; exact k2
        · rw [s3, m15]
        · rw [s4, m16]
        · rw [s5, m17]
        · rw [hr 6 (by omega), mo 12 _ (by omega)]; exact k6
        · have hne : w ≠ i := fun e => by
            rw [e, mo 11 _ (by omega)] at hw5
            exact h5 hw5
          rw [mo 11 _ (by omega)] at hw5
          rw [hσ _ _ (by omega), hσ _ _ (by omega), hσ _ _ (by omega), mo _ w (Or.inr hne), mo _ w (Or.inr hne), mo _ w (Or.inr hne), mo _ w (Or.inr hne)]
          exact hH w hw hw5
        · simp only [mo 8 _ (Or.inl (by omega)), mo 41 _ (Or.inl (by omega)), mo 42 _ (Or.inl (by omega)), mo 43 _ (Or.inl (by omega))]
          exact hWH w hw
        · rw [mo 15 w (Or.inr (by omega)), mo 41 _ (Or.inl (by omega))]
          exact hO w (by omega) h2
        · rw [mo 44 _ (Or.inl (by omega))]
          by_cases e : w = i
          · rw [e, hr 7 (by omega)]; exact hM i hi
          · rw [hσ _ _ (by omega)]; exact hM w hw
      · rw [if_neg hfN, if_neg hfN]
        exact keep
theorem ph2 {B G N : Nat} {σ τ : xS} (h : I2 B G N 0 σ τ) : ∀ i, i ≤ N → I2 B G N i (st2 B i σ) (pm2 i τ)
  | 0, _ => h
  | i + 1, hi => by
    have ih := ph2 h i (by omega)
    have es : st2 B (i + 1) σ = meetX (st2 B i σ) B (B + 20 + i) (nxt (st2 B i σ) B (nI i)) := rfl
    have e2 := ih.1.1.1.2
    have hN6 := ih.1.2.1.2.1
    have ex : nxt (st2 B i σ) B (nI i) = nxtN (st2 B i σ) B N i := by unfold nxt; rw [e2, tn_nI (by omega), tn_nI (by omega)]
    rw [es, ex, pm2_s]
    exact ph2s ih (by omega)
theorem ph3 {B G N : Nat} {σ τ : xS} (h : I3 B G N 0 σ τ) : ∀ i, i ≤ N → I3 B G N i (st3 B i σ) (pm3 N i τ)
  | 0, _ => h
  | i + 1, hi => by
    have ih := ph3 h i (by omega)
    have es : st3 B (i + 1) σ = if (st3 B i σ).1 (B + 20 + i) 7 = 0 then loudX (st3 B i σ) B (B + 20 + i) else st3 B i σ := rfl
    rw [es, pm3_s]
    exact ph3s ih (by omega)
theorem hsM_c {τ : xS} {N : Nat} (hN : N ≤ 6) (h : τ.1 0 1 = nI N) {w : Nat} (hw : w < N) : (hsM τ).1 40 w = τ.1 14 w ∧ (hsM τ).1 41 w = τ.1 15 w ∧ (hsM τ).1 42 w = τ.1 16 w ∧ (hsM τ).1 43 w = τ.1 17 w := by
  have hlt : w < tn (τ.1 0 1) := by rw [h, tn_nI (by omega)]; exact hw
  refine ⟨?_, ?_, ?_, ?_⟩
  · show (if w < tn (τ.1 0 1) then τ.1 (mHS 40) w else τ.1 40 w) = _
    rw [if_pos hlt]; rfl
  · show (if w < tn (τ.1 0 1) then τ.1 (mHS 41) w else τ.1 41 w) = _
    rw [if_pos hlt]; rfl
  · show (if w < tn (τ.1 0 1) then τ.1 (mHS 42) w else τ.1 42 w) = _
    rw [if_pos hlt]; rfl
  · show (if w < tn (τ.1 0 1) then τ.1 (mHS 43) w else τ.1 43 w) = _
    rw [if_pos hlt]; rfl
theorem TK_v {σ : xS} {K w : Nat} {v v' : Nat → Nat → Int32} (hv : ∀ a, 11 ≤ a → a ≤ 17 → v' a w = v a w) (h : TK σ K v w) : TK σ K v' w := by
  obtain ⟨k0, k1, k2, k3, k4, k5, k6⟩ := h
  exact ⟨by rw [hv _ (by omega) (by omega)]; exact k0, by rw [hv _ (by omega) (by omega)]; exact k1, by rw [hv _ (by omega) (by omega)]; exact k2, by rw [hv _ (by omega) (by omega)]; exact k3, by rw [hv _ (by omega) (by omega)]; exact k4, by rw [hv _ (by omega) (by omega)]; exact k5, by rw [hv _ (by omega) (by omega)]; exact k6⟩
/-- a town's pair, and its numbers, when the reference's arrays are as they were for all that is there -/
theorem TW_v {B G N : Nat} {σ : xS} {v v' : Nat → Nat → Int32} (h7 : ∀ a c, 7 ≤ a → a ≤ 10 → v' a c = v a c) (hv : ∀ a w, 11 ≤ a → a ≤ 17 → w < N → v' a w = v a w) (h : TW B G N σ v) : TW B G N σ v' := by
  obtain ⟨h1, hg, hw, hl⟩ := h
  refine ⟨h1, fun g hgG => ?_, fun w hwN => TK_v (fun a a1 a2 => hv a w a1 a2 hwN) (hw w hwN), fun p hp => by rw [h7 10 p (by omega) (by omega)]; exact hl p hp⟩
  obtain ⟨a1, a2, a3⟩ := hg g hgG
  exact ⟨by rw [h7 8 g (by omega) (by omega)]; exact a1, by rw [h7 9 g (by omega) (by omega)]; exact a2, fun j hj => by rw [h7 8 g (by omega) (by omega)] at hj; rw [h7 7 _ (by omega) (by omega)]; exact a3 j hj⟩
theorem WF_v {G N : Nat} {v v' : Nat → Nat → Int32} (h0 : v' 0 0 = v 0 0 ∧ v' 0 1 = v 0 1) (h7 : ∀ a c, 7 ≤ a → a ≤ 10 → v' a c = v a c) (hv : ∀ a w, 11 ≤ a → a ≤ 17 → w < N → v' a w = v a w) (h : WF G N v) : WF G N v' := by
  obtain ⟨⟨h1, h2, h3, h4⟩, hg, hw, hl⟩ := h
  exact ⟨⟨h1, h2, h0.1.trans h3, h0.2.trans h4⟩, fun g hgG => wfG_v (fun a c a1 a2 => h7 a c (by omega) (by omega)) (hg g hgG), fun w hwN => wfW_v (fun a a1 a2 => hv a w a1 a2 hwN) (fun g => h7 8 g (by omega) (by omega)) (hw w hwN), fun p hp => by rw [h7 10 p (by omega) (by omega)]; exact hl p hp⟩
theorem WF_dy {G N : Nat} {τ : xS} (h : WF G N τ.1) : dyA τ := by
  obtain ⟨⟨h1, h2, h3, h4⟩, hg, hw, hl⟩ := h
  intro w hwN
  rw [h4, tn_nI (by omega)] at hwN
  obtain ⟨k, p, d, g, q, t, ⟨b1, b2, b3, b4, b5, b6⟩, e1, e2, e3, e4, e5, e6⟩ := hw w hwN
  obtain ⟨l, a, ⟨c1, c2, c3⟩, f1, f2, f3⟩ := hg g b4
  rw [f1, tn_nI (by omega)] at b5
  unfold dyP
  have hix : 8 * nI g + nI q = nI (8 * g + q) := by rw [show (8 : Int32) = nI 8 from rfl, pk_mul, nI_add]
  rw [e4, e5, hix, tn_nI (by omega), tn_nI (by omega), f1]
  exact ⟨⟨nI_pos' (by omega), by omega⟩, ⟨nI_pos' (by omega), by omega⟩, nI_ne0 (by omega) (by omega)⟩
/-- a whole beat: the towns stay side by side -/
theorem beat_ok {B G N : Nat} {σ τ : xS} (hT : TW B G N σ τ.1) (hW : WF G N τ.1) : TW B G N (beatX B σ) (beM τ).1 ∧ WF G N (beM τ).1 := by
  have hN6 := hW.1.2.1
  have hb : tn (σ.1 B 2) = N := by rw [hT.1.2, tn_nI (by omega)]
  have hm : tn (τ.1 0 1) = N := by rw [hW.1.2.2.2, tn_nI (by omega)]
  obtain ⟨t1, w1, r1⟩ := ph1 hT hW N (Nat.le_refl _)
  have u1 : beT1 τ = hsM (dm1 N τ) := by unfold beT1; rw [hm]
  have hc1 := fun w hw => hsM_c (τ := dm1 N τ) hN6 w1.1.2.2.2 (w := w) hw
  have ho1 : ∀ a c, a ≤ 17 → (hsM (dm1 N τ)).1 a c = (dm1 N τ).1 a c := fun a c h => hsM_o (by omega)
  have i2 : I2 B G N 0 (st1 B N σ) (hsM (dm1 N τ)) := by
    refine ⟨⟨TW_v (fun a c _ h => ho1 a c (by omega)) (fun a w _ h _ => ho1 a w h) t1, WF_v ⟨ho1 _ _ (by omega), ho1 _ _ (by omega)⟩ (fun a c _ h => ho1 a c (by omega)) (fun a w _ h _ => ho1 a w h) w1⟩, ⟨fun w hw => ?_, fun w hw => ?_⟩, ⟨fun w _ hw => ?_, fun w hw _ => ?_⟩, fun w hw => absurd hw (by omega)⟩
    · obtain ⟨a1, a2, a3, a4⟩ := hc1 w hw
      obtain ⟨b1, b2, b3, b4⟩ := r1 w hw
      exact ⟨b1.trans a2.symm, b2.trans a3.symm, b3.trans a1.symm, b4.trans a4.symm⟩
    · obtain ⟨a1, a2, a3, a4⟩ := hc1 w hw
      obtain ⟨k, p, d, g, q, t, ⟨b1, b2, b3, b4, b5, b6⟩, e1, e2, e3, e4, e5, e6⟩ := w1.2.2.1 w hw
      exact ⟨g, q, d, t, ⟨b4, by rw [ho1 8 _ (by omega)]; exact b5, b3, b6⟩, a2.trans e4, a3.trans e5, a1.trans e3, a4.trans e6⟩
    · obtain ⟨a1, a2, a3, a4⟩ := hc1 w hw
      rw [ho1 15 _ (by omega)]
      exact a2.symm
    · obtain ⟨a1, a2, a3, a4⟩ := hc1 w hw
      rw [ho1 15 _ (by omega), ho1 16 _ (by omega), ho1 17 _ (by omega)]
      exact ⟨a2.symm, a3.symm, a4.symm⟩
  have j2 := ph2 i2 N (Nat.le_refl _)
  have u2 : beT2 τ = hsM (pm2 N (hsM (dm1 N τ))) := by unfold beT2; rw [u1, hm]
  have ub : beM τ = pm3 N N (hsM (pm2 N (hsM (dm1 N τ)))) := by unfold beM; rw [u2, hm]
  have bx : beatX B σ = st3 B N (st2 B N (st1 B N σ)) := by unfold beatX; rw [hb]
  rw [ub, bx]
  generalize st2 B N (st1 B N σ) = S2 at *
  generalize pm2 N (hsM (dm1 N τ)) = U2 at *
  obtain ⟨⟨t2, w2⟩, ⟨hH, hWH⟩, ⟨hO, hL⟩, hM⟩ := j2
  have hc2 := fun w hw => hsM_c (τ := U2) hN6 w2.1.2.2.2 (w := w) hw
  have ho2 : ∀ a c, a ≤ 17 ∨ a = 44 → (hsM U2).1 a c = U2.1 a c := fun a c h => hsM_o (by omega)
  have i3 : I3 B G N 0 S2 (hsM U2) := by
    refine ⟨⟨TW_v (fun a c _ h => ho2 a c (by omega)) (fun a w _ h _ => ho2 a w (Or.inl h)) t2, WF_v ⟨ho2 _ _ (by omega), ho2 _ _ (by omega)⟩ (fun a c _ h => ho2 a c (by omega)) (fun a w _ h _ => ho2 a w (Or.inl h)) w2⟩, ⟨fun w hw h5 => ?_, fun w hw => ?_⟩, fun w _ hw => ?_, fun w hw => ?_⟩
    · rw [ho2 11 _ (by omega)] at h5
      obtain ⟨a1, a2, a3, a4⟩ := hc2 w hw
      obtain ⟨b1, b2, b3⟩ := hL w hw h5
      obtain ⟨c1, c2, c3, c4⟩ := hH w hw
      rw [a2, a3, a4, ho2 15 _ (by omega)]
      exact ⟨⟨c1.trans b1.symm, c2.trans b2.symm, c4.trans b3.symm⟩, rfl⟩
    · obtain ⟨a1, a2, a3, a4⟩ := hc2 w hw
      obtain ⟨k, p, d, g, q, t, ⟨b1, b2, b3, b4, b5, b6⟩, e1, e2, e3, e4, e5, e6⟩ := w2.2.2.1 w hw
      exact ⟨g, q, t, ⟨b4, by rw [ho2 8 _ (by omega)]; exact b5, b6⟩, a2.trans e4, a3.trans e5, a4.trans e6⟩
    · rw [(hc2 w hw).2.1, ho2 15 _ (by omega)]
    · rw [ho2 44 _ (by omega)]; exact hM w hw
  exact (ph3 i3 N (Nat.le_refl _)).1
