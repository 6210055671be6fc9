/-! hire, side by side -/
def HR (G N : Nat) (σ τ : xS) (F F' : Int32 × Int32 × xS) : Prop := (F.1 = F'.1 ∧ F.2.1 = F'.2.1) ∧ (∃ m, m ≤ 101 ∧ F.2.1 = nI m) ∧ HX G σ F.2.2 τ ∧ HQ N τ F'.2.2
theorem hr_in {G N p d g : Nat} {σ τ : xS} {F F' : Int32 × Int32 × xS} (h : RRn G N σ τ) (hN : N < 6) (hp : p < 49) (hd : d < 4) (hg : g < G) (hR : HR G N σ τ F F') : HR G N σ τ (hr1 (4 * p + d) F true (hbV F.2.2 (nI g) (nI (4 * p + d)) F.2.1) (hbT F.2.2 (nI g) (nI (4 * p + d)) F.2.1)) (hqD (nI g) (nI N) p F' d) := by
  obtain ⟨⟨r1, r2⟩, ⟨m, hm, em⟩, hX, hQ⟩ := hR
  have hτ := (RRn_G h).2.2.2
  have eN : hbN F.2.2 (nI g) (nI (4 * p + d)) F.2.1 = hqN (hqW F'.2.2 (nI g) p d) (nI g) F'.2.1 := by
    unfold hbN hqN
    rw [← r2]
    exact xfs_congr (fun j _ => hp_eq h hN hX hQ hp hd hg)
  have hx2 := HX_T (p := p) (d := d) (g := nI g) (n := F.2.1) h hN hX
  have hq2 := HQ_Z (p := p) (d := d) (j := hqN (hqW F'.2.2 (nI g) p d) (nI g) F'.2.1) (g := nI g) hτ hN hQ
  have hle : hqN (hqW F'.2.2 (nI g) p d) (nI g) F'.2.1 ≤ m := by
    have := xfs_le (hqP (hqW F'.2.2 (nI g) p d) (nI g)) (tn F'.2.1)
    rw [← r2, em, tn_nI (by omega)] at this
    unfold hqN
    rw [← r2, em, tn_nI (by omega)]
    exact this
  unfold hr1 hqD hbV
  rw [if_pos (rfl : true = true), eN, ← r1, ← r2]
  rw [← r2] at hq2 hle
  generalize hqN (hqW F'.2.2 (nI g) p d) (nI g) F.2.1 = k at *
  rw [em]
  by_cases h0 : 0 < nI m
  · rw [if_pos h0]
    by_cases hk : nI k < nI m
    · rw [if_pos hk, if_pos hk, if_pos hk]
      exact ⟨⟨rfl, rfl⟩, ⟨k, by omega, rfl⟩, by rw [← em]; exact hx2, hq2⟩
    · rw [if_neg hk, if_neg hk, if_neg hk]
      exact ⟨⟨rfl, rfl⟩, ⟨m, hm, rfl⟩, by rw [← em]; exact hx2, hq2⟩
  · have hm0 : m = 0 := by
      rcases Nat.eq_zero_or_pos m with z | z
      · exact z
      · exact absurd (nI_lt z (by omega)) h0
    have hk : ¬ nI k < nI m := fun q => by
      have := (nI_ltI (a := k) (b := m) (by omega) (by omega)).mp q
      omega
    rw [if_neg h0, if_neg hk, if_neg hk]
    exact ⟨⟨rfl, em⟩, ⟨m, hm, em⟩, hX, hq2⟩
theorem hr_row {G N p g D : Nat} {σ τ : xS} {F' : Int32 × Int32 × xS} (h : RRn G N σ τ) (hN : N < 6) (hp : p < 49) (hg : g < G) (hfr : ∀ d, d < 4 → fbX (hrF σ (nI g) (4 * p + d)).2.2 100 (nI (4 * p + d) / 4) = true) (hR : HR G N σ τ (hrF σ (nI g) (4 * p)) F') : ∀ d, d ≤ D → D ≤ 4 → HR G N σ τ (hrF σ (nI g) (4 * p + d)) (hqI (nI g) (nI N) p F' d)
  | 0, _, _ => hR
  | d + 1, hd, hD => by
    have ih := hr_row (D := D) h hN hp hg hfr hR d (by omega) hD
    rw [show 4 * p + (d + 1) = 4 * p + d + 1 by omega, hrF_s, hqI_s, hfr d (by omega)]
    exact hr_in h hN hp (by omega) hg ih
theorem hr_no {G N p g : Nat} {σ τ : xS} {F' : Int32 × Int32 × xS} (hfr : ∀ d, d < 4 → fbX (hrF σ (nI g) (4 * p + d)).2.2 100 (nI (4 * p + d) / 4) = false) (hR : HR G N σ τ (hrF σ (nI g) (4 * p)) F') : ∀ d, d ≤ 4 → HR G N σ τ (hrF σ (nI g) (4 * p + d)) F'
  | 0, _ => hR
  | d + 1, hd => by
    have ih := hr_no hfr hR d (by omega)
    rw [show 4 * p + (d + 1) = 4 * p + d + 1 by omega, hrF_s, hfr d (by omega)]
    unfold hr1
    rw [if_neg (show ¬ (false = true) by decide)]
    split <;> exact ih
theorem fr_eq {G N p : Nat} {σ τ S U : xS} (h : RRn G N σ τ) (hF : FR σ S) (hQ : HQ N τ U) (hp : p < 49) : fbX S 100 (nI p) = true ↔ ¬ (U.1 10 p = 1 ∨ itM U (nI p) = true) := by
  have hN := (RRn_G h).1.2
  have hU : itM U (nI p) = itM τ (nI p) := by
    unfold itM
    rw [hQ.1 0 1 (by omega) (by omega), (RRn_G h).2.2.2, tn_nI (by omega)]
    exact xany_congr (fun i hi => by unfold tkP; rw [(hQ.2.1 i (by omega)).1.1])
  have hS : fbX S 100 (nI p) = fbX σ 100 (nI p) := by
    have e : (fun i => decide (S.1 (100 + 20 + i) 1 = nI p)) = (fun i => decide (S.1 (100 + 20 + i) 1 = nI p)) := rfl
    unfold fbX
    rw [hF.2 100 0 (by omega) (by omega) (by omega), hF.1 100 2 (by omega)]
    have e : xany (fun i => decide (S.1 (100 + 20 + i) 1 = nI p)) (tn (σ.1 100 2)) = xany (fun i => decide (σ.1 (100 + 20 + i) 1 = nI p)) (tn (σ.1 100 2)) := xany_congr (fun i hi => by
      rw [(RRn_G h).2.2.1, tn_nI (by omega)] at hi
      rw [hF.1 (100 + 20 + i) 1 (by omega)])
    rw [e]
  rw [hS, hU, hQ.1 10 p (by omega) (by omega), ← at_eq h.1]
  have hl := h.1.1.1.2.2.2 p hp
  have ha : xany (fun i => decide (σ.1 (100 + 20 + i) 1 = nI p)) (tn (σ.1 100 2)) = atX σ (nI p) := rfl
  unfold fbX
  rw [decide_eq_true_iff, ha, hl]
  constructor
  · rintro ⟨q1, q2⟩ (q | q)
    · exact q1 q
    · rw [q2] at q; exact absurd q (by decide)
  · intro q
    refine ⟨fun z => q (Or.inl z), ?_⟩
    cases e : atX σ (nI p) with
    | false => rfl
    | true => exact absurd (Or.inr e) q
theorem FR_hrF {G N : Nat} {g : Int32} {σ τ : xS} (h : RRn G N σ τ) (hN : N < 6) (i : Nat) : FR σ (hrF σ g i).2.2 := by
  obtain ⟨⟨hG, -⟩, ⟨c1, c2⟩, ⟨c3, c4⟩⟩ := RRn_G h
  exact FR_hr (by rw [c3]; exact nI_pos' (by omega)) (by rw [c3]; exact nI_lt (b := 6) hN (by omega)) (by rw [c1]; exact nI_le (b := 8) hG (by omega)) i
theorem hr_all {G N g D : Nat} {σ τ : xS} (h : RRn G N σ τ) (hN : N < 6) (hg : g < G) (hD : D = 4) : ∀ p, p ≤ 49 → HR G N σ τ (hrF σ (nI g) (4 * p)) (hqO D τ (nI g) p)
  | 0, _ => ⟨⟨rfl, rfl⟩, ⟨101, Nat.le_refl _, rfl⟩, HX_0 h, HQ_0⟩
  | p + 1, hp => by
    have ih := hr_all h hN hg hD p (by omega)
    have hfr : ∀ d, d < 4 → (fbX (hrF σ (nI g) (4 * p + d)).2.2 100 (nI (4 * p + d) / 4) = true ↔ ¬ ((hqO D τ (nI g) p).2.2.1 10 p = 1 ∨ itM (hqO D τ (nI g) p).2.2 (nI p) = true)) := fun d hd => by
      rw [(b4_ok p (by omega) d hd).1]
      exact fr_eq h (FR_hrF h hN _) ih.2.2.2 (by omega)
    rw [hqO_s, (RRn_G h).2.2.2]
    unfold hqQ
    by_cases hc : (hqO D τ (nI g) p).2.2.1 10 p = 1 ∨ itM (hqO D τ (nI g) p).2.2 (nI p) = true
    · rw [if_pos hc]
      have := hr_no (fun d hd => bool_f (hfr d hd) (fun q => q hc)) ih 4 (Nat.le_refl _)
      rw [show 4 * (p + 1) = 4 * p + 4 by omega]
      exact this
    · rw [if_neg hc]
      have := hr_row (D := D) h hN (by omega) hg (fun d hd => (hfr d hd).mpr hc) ih D (Nat.le_refl _) (by omega)
      rw [show 4 * (p + 1) = 4 * p + D by omega]
      exact this
/-! barred: somebody never comes to it -/
def BR (g : Int32) (T : xS) (w : Nat) : Prop := ((T.1 11 w = 1 ∨ T.1 11 w = 2 ∨ T.1 11 w = 5) ∧ ¬ T.1 15 w = g) ∨ (T.1 11 w = 6 ∧ g < T.1 15 w)
theorem BR_ne {g : Int32} {T : xS} {w : Nat} (h : BR g T w) : ¬ T.1 15 w = g := by
  rcases h with ⟨-, h⟩ | ⟨-, h⟩
  · exact h
  · exact fun e => by rw [e] at h; exact Int32.lt_irrefl h
theorem BR_v {g : Int32} {T T' : xS} {w : Nat} (h11 : T'.1 11 w = T.1 11 w) (h15 : T'.1 15 w = T.1 15 w) (h : BR g T w) : BR g T' w := by
  unfold BR
  rw [h11, h15]
  exact h
/-- one that takes from another: what it may come to -/
theorem BR_to {g : Int32} {T : xS} {w f : Nat} (h41 : T.1 41 w = T.1 15 w) (ht : tkMb T w f = true) (h : BR g T w) : BR g (toM T w f) w := by
  have t := of_decide_eq_true ht
  rcases h with ⟨h1, -⟩ | ⟨h1, h2⟩
  · exact absurd h1 t.1
  · refine Or.inr ⟨by rw [toM_o (by omega)]; exact h1, ?_⟩
    rw [toM_15]
    have := t.2.resolve_left (fun z => z h1)
    rw [h41] at this
    exact Int32.lt_trans h2 this
theorem tkMb_44 {T : xS} {i w f : Nat} {b : Int32} : tkMb (xI T 44 i b) w f = tkMb T w f := by
  unfold tkMb
  rw [xI_n (by omega), xI_n (by omega), xI_n (by omega)]
theorem p2M_15 {T : xS} {i w : Nat} (h : w ≠ i) : (p2M T i).1 15 w = T.1 15 w := by
  unfold p2M p2B
  split
  · rw [xI_n (by omega)]
  · split
    · rw [xI_n (by omega), toM_w h, xI_n (by omega)]
    · rw [xI_n (by omega)]
theorem p3M_15 {T : xS} {n i w : Nat} (h : w ≠ i) : (p3M n T i).1 15 w = T.1 15 w := by
  unfold p3M p3B
  split
  · rfl
  · split
    · rw [toM_w h]
    · rfl
theorem p2M_BR {g : Int32} {T : xS} {i : Nat} (h41 : T.1 41 i = T.1 15 i) (h : BR g T i) : BR g (p2M T i) i := by
  unfold p2M p2B
  split
  · exact BR_v (xI_n (by omega)) (xI_n (by omega)) h
  · split
    · rename_i q
      refine BR_v (T := toM (xI T 44 i 1) i (tn (nxM T (nI i)))) (xI_n (by omega)) (xI_n (by omega)) ?_
      exact BR_to (by rw [xI_n (by omega), xI_n (by omega)]; exact h41) q.1 (BR_v (xI_n (by omega)) (xI_n (by omega)) h)
    · exact BR_v (xI_n (by omega)) (xI_n (by omega)) h
theorem p3M_BR {g : Int32} {T : xS} {n i : Nat} (h41 : T.1 41 i = T.1 15 i) (h : BR g T i) : BR g (p3M n T i) i := by
  unfold p3M p3B
  split
  · exact h
  · split
    · rename_i q
      have hb := (xfs_b (P := lqP T i) (n := n)).2 q
      have t := (of_decide_eq_true hb).2.2
      exact BR_to h41 t h
    · exact h
theorem pm2_BR {g : Int32} {T : xS} {w : Nat} (h41 : T.1 41 w = T.1 15 w) (h : BR g T w) : ∀ i, BR g (pm2 i T) w ∧ (i ≤ w → (pm2 i T).1 15 w = T.1 15 w)
  | 0 => ⟨h, fun _ => rfl⟩
  | i + 1 => by
    obtain ⟨ih1, ih2⟩ := pm2_BR h41 h i
    rw [pm2_s]
    by_cases e : w = i
    · subst e
      exact ⟨p2M_BR (by rw [pm2_o (by omega), ih2 (Nat.le_refl _)]; exact h41) ih1, fun q => absurd q (by omega)⟩
    · exact ⟨BR_v (p2M_o (by omega)) (p2M_15 e) ih1, fun q => (p2M_15 e).trans (ih2 (by omega))⟩
theorem pm3_BR {g : Int32} {T : xS} {n w : Nat} (h41 : T.1 41 w = T.1 15 w) (h : BR g T w) : ∀ i, BR g (pm3 n i T) w ∧ (i ≤ w → (pm3 n i T).1 15 w = T.1 15 w)
  | 0 => ⟨h, fun _ => rfl⟩
  | i + 1 => by
    obtain ⟨ih1, ih2⟩ := pm3_BR (n := n) h41 h i
    rw [pm3_s]
    by_cases e : w = i
    · subst e
      exact ⟨p3M_BR (by rw [pm3_o (by omega), ih2 (Nat.le_refl _)]; exact h41) ih1, fun q => absurd q (by omega)⟩
    · exact ⟨BR_v (p3M_o (by omega)) (p3M_15 e) ih1, fun q => (p3M_15 e).trans (ih2 (by omega))⟩
theorem beM_BR {g : Int32} {T : xS} {N w : Nat} (hN : N ≤ 6) (h1 : T.1 0 1 = nI N) (hw : w < N) (h : BR g T w) : BR g (beM T) w := by
  have hm : tn (T.1 0 1) = N := by rw [h1, tn_nI (by omega)]
  have u1 : beT1 T = hsM (dm1 N T) := by unfold beT1; rw [hm]
  have u2 : beT2 T = hsM (pm2 N (hsM (dm1 N T))) := by unfold beT2; rw [u1, hm]
  have ub : beM T = pm3 N N (hsM (pm2 N (hsM (dm1 N T)))) := by unfold beM; rw [u2, hm]
  rw [ub]
  have d1 : BR g (dm1 N T) w := BR_v (dm1_o (by omega)) (dm1_o (by omega)) h
  have d01 : (dm1 N T).1 0 1 = nI N := (dm1_o (by omega)).trans h1
  have hc1 := (hsM_c (τ := dm1 N T) hN d01 hw).2.1
  have s1 : BR g (hsM (dm1 N T)) w := BR_v (hsM_o (by omega)) (hsM_o (by omega)) d1
  have q41 : (hsM (dm1 N T)).1 41 w = (hsM (dm1 N T)).1 15 w := by rw [hc1, hsM_o (by omega)]
  have p2 := (pm2_BR q41 s1 N).1
  have p01 : (pm2 N (hsM (dm1 N T))).1 0 1 = nI N := by rw [pm2_o (by omega), hsM_o (by omega)]; exact d01
  have hc2 := (hsM_c (τ := pm2 N (hsM (dm1 N T))) hN p01 hw).2.1
  generalize pm2 N (hsM (dm1 N T)) = Y at *
  exact (pm3_BR (by rw [hc2, hsM_o (by omega)]) (BR_v (hsM_o (by omega)) (hsM_o (by omega)) p2) N).1
theorem gbM_BR {g : Int32} {T : xS} {N w : Nat} (hN : N ≤ 6) (h1 : T.1 0 1 = nI N) (hw : w < N) (h : BR g T w) : ∀ j, BR g (gbM j T) w
  | 0 => h
  | j + 1 => by
    rw [gbM_s]
    exact beM_BR hN (by rw [gbM_o (by omega)]; exact h1) hw (gbM_BR hN h1 hw h j)
theorem br_BR {G N : Nat} {g : Int32} {σ τ : xS} (h : RRn G N σ τ) (hb : brX σ 100 g = true) : ∃ w, w < N ∧ BR g τ w := by
  have hN := (RRn_G h).1.2
  unfold brX at hb
  rw [(RRn_G h).2.2.1, tn_nI (by omega), xany_iff] at hb
  obtain ⟨w, hw, hq⟩ := hb
  refine ⟨w, hw, ?_⟩
  have hq := of_decide_eq_true hq
  obtain ⟨k0, k1, k2, k3, k4, k5, k6⟩ := h.1.1.1.2.2.1 w hw
  obtain ⟨k, p, d, g', q, t, ⟨b1, b2, b3, b4, b5, b6⟩, e1, e2, e3, e4, e5, e6⟩ := h.1.1.2.2.2.1 w hw
  rw [k0, k3, e1] at hq
  unfold BR
  rw [e1]
  have hk := kd k b1
  by_cases h6 : nI k = 6
  · rw [if_pos h6] at hq
    refine Or.inr ⟨h6, ?_⟩
    rcases Int32.lt_or_eq_of_le (Int32.not_lt.mp hq.2) with z | z
    · exact z
    · exact absurd z.symm hq.1
  · rw [if_neg h6] at hq
    refine Or.inl ⟨?_, hq.1⟩
    refine Classical.byContradiction (fun z => ?_)
    exact hq.2 ((hk.mp z).resolve_left h6)
theorem bar_in {N p d g w m : Nat} {τ : xS} {F : Int32 × Int32 × xS} (hN : N < 6) (hτ : τ.1 0 1 = nI N) (hw : w < N) (hB : BR (nI g) τ w) (hm : m < 2 ^ 31) (h : F.1 = -1 ∧ F.2.1 = nI m ∧ HQ N τ F.2.2) : (hqD (nI g) (nI N) p F d).1 = -1 ∧ (hqD (nI g) (nI N) p F d).2.1 = nI m ∧ HQ N τ (hqD (nI g) (nI N) p F d).2.2 := by
  obtain ⟨h1, h2, h3⟩ := h
  have hU := HQ_1 hτ h3
  have e1 : (hqW F.2.2 (nI g) p d).1 0 1 = nI (N + 1) := by rw [hqW_1, hU, nI_1]
  have b1 : BR (nI g) (hqW F.2.2 (nI g) p d) w := BR_v (by rw [hqW_o hU hN (by omega) (by omega), h3.1 11 w (by omega) (by omega)]) (by rw [hqW_o hU hN (by omega) (by omega), (h3.2.1 w (by omega)).1.2.2.1]) hB
  have hq : ∀ j, hqP (hqW F.2.2 (nI g) p d) (nI g) j = false := fun j => by
    have hj := BR_ne (gbM_BR (show N + 1 ≤ 6 by omega) e1 (show w < N + 1 by omega) b1 j)
    unfold hqP
    refine decide_eq_false ?_
    rw [e1]
    unfold hvM
    rw [gbM_o (by omega), e1, tn_nI (by omega), all_n (by omega)]
    intro q
    have : xany (fun i => !(hvP (gbM j (hqW F.2.2 (nI g) p d)) (nI g) i)) (N + 1) = true := xany_t (i := w) (by omega) (by
      unfold hvP
      rw [decide_eq_false hj]; rfl)
    rw [this] at q
    exact absurd q (by decide)
  have hn : hqN (hqW F.2.2 (nI g) p d) (nI g) F.2.1 = m := by
    unfold hqN
    rw [h2, tn_nI hm]
    exact xfs_no (fun j _ => hq j)
  have hz := HQ_Z (p := p) (d := d) (j := hqN (hqW F.2.2 (nI g) p d) (nI g) F.2.1) (g := nI g) hτ hN h3
  unfold hqD
  rw [hn] at *
  rw [h2, if_neg (Int32.lt_irrefl), if_neg (Int32.lt_irrefl)]
  exact ⟨h1, rfl, hz⟩
theorem bar_row {N p g w m : Nat} {τ : xS} {F : Int32 × Int32 × xS} (hN : N < 6) (hτ : τ.1 0 1 = nI N) (hw : w < N) (hB : BR (nI g) τ w) (hm : m < 2 ^ 31) (h : F.1 = -1 ∧ F.2.1 = nI m ∧ HQ N τ F.2.2) : ∀ d, (hqI (nI g) (nI N) p F d).1 = -1 ∧ (hqI (nI g) (nI N) p F d).2.1 = nI m ∧ HQ N τ (hqI (nI g) (nI N) p F d).2.2
  | 0 => h
  | d + 1 => by
    rw [hqI_s]
    exact bar_in hN hτ hw hB hm (bar_row hN hτ hw hB hm h d)
theorem bar_all {N g w D : Nat} {τ : xS} (hN : N < 6) (hτ : τ.1 0 1 = nI N) (hw : w < N) (hB : BR (nI g) τ w) : ∀ p, (hqO D τ (nI g) p).1 = -1 ∧ (hqO D τ (nI g) p).2.1 = nI 101 ∧ HQ N τ (hqO D τ (nI g) p).2.2
  | 0 => ⟨rfl, rfl, HQ_0⟩
  | p + 1 => by
    have ih := bar_all (D := D) hN hτ hw hB p
    rw [hqO_s, hτ]
    unfold hqQ
    split
    · exact ih
    · exact bar_row hN hτ hw hB (by omega) ih D
theorem hire_ok {G N g D P : Nat} {σ τ : xS} (h : RRn G N σ τ) (hN : N < 6) (hg : g < G) (hD : D = 4) (hP : P = 49) (x : Int32) : OKp (if brX σ 100 (nI g) = true then (-1, σ) else hrZ x (hrF σ (nI g) (4 * P))) (hqR (hqO D τ (nI g) P) x) := by
  by_cases hb : brX σ 100 (nI g) = true
  · rw [if_pos hb]
    obtain ⟨w, hw, hB⟩ := br_BR h hb
    obtain ⟨a1, a2, a3⟩ := bar_all (D := D) hN (RRn_G h).2.2.2 hw hB P
    unfold hqR
    rw [a1, if_pos (rfl : (-1 : Int32) = -1)]
    exact OKp_2 rfl ⟨G, N, RRn_f XF_r (HQ_MFr (by omega) a3) h⟩
  · rw [if_neg hb]
    obtain ⟨⟨r1, r2⟩, -, hX, hQ⟩ := hr_all h hN hg hD P (by omega)
    unfold hrZ hqR
    refine OKp_2 ?_ ⟨G, N, RRn_f (XF_FR hX.1) (HQ_MFr (by omega) hQ) h⟩
    rw [r1, r2]
    by_cases e : (hqO D τ (nI g) P).1 = -1
    · rw [if_pos (Or.inl e), if_pos e, e]
    · rw [if_neg e]
      by_cases ex : x = 0
      · rw [if_pos (Or.inr ex), if_pos ex]
      · rw [if_neg (fun q => q.elim e ex), if_neg ex]
theorem ok_hire {G N : Nat} {σ τ : xS} (h : RRn G N σ τ) (g x : Int32) : OKp (hirX σ g x) (hirM τ g x) := by
  obtain ⟨⟨hG, hN⟩, ⟨c1, c2⟩, ⟨c3, c4⟩⟩ := RRn_G h
  unfold hirX hirM
  rw [c1, c2, c3, c4]
  by_cases hg : 0 ≤ g ∧ g < nI G
  · rw [if_neg (not_not_intro hg), if_neg (not_not_intro hg)]
    by_cases hx : 0 ≤ x ∧ x ≤ 1
    · rw [if_neg (not_not_intro hx), if_neg (show ¬ (x < 0 ∨ 1 < x) from fun q => (nrg.mpr q) hx)]
      by_cases h6 : N = 6
      · have e6 : nI N = 6 := by rw [h6]; rfl
        rw [if_pos (show ¬ nI N < 6 by rw [e6]; decide), if_pos e6]
        exact nt_p rk17 (by decide) h
      · have e6 : ¬ nI N = 6 := fun q => h6 ((nI_eq (b := 6) (by omega) (by omega)).mp q)
        rw [if_neg (not_not_intro (show nI N < 6 from (nI_ltI (b := 6) (by omega) (by omega)).mpr (by omega))), if_neg e6]
        obtain ⟨g', hg', rfl⟩ := rgl (by omega) hg
        exact hire_ok h (by omega) hg' rfl rfl x
    · rw [if_pos hx, if_pos (nrg.mp hx)]
      exact nt_p rk15 (by decide) h
  · rw [if_pos hg, if_pos hg]
    exact nt_p rk11 (by decide) h
