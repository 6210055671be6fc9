/-! one step, whoever walks -/
theorem step_ok1 {B G : Nat} {σ τ : xS} {K w : Nat} (hG8 : G ≤ 8) (hWG : ∀ g, g < G → wfG τ.1 g) (hTG : ∀ g, g < G → TG B σ τ.1 g) (hTL : TL (σ.2 B 0) τ.1) (hk : TK σ K τ.1 w) (hw : wfW τ.1 G w) : TK (stepX σ B K) K (doM τ w).1 w ∧ wfW (doM τ w).1 G w := by
  obtain ⟨k, p, d, g, q, t, ⟨b1, b2, b3, b4, b5, b6⟩, e1, e2, e3, e4, e5, e6⟩ := hw
  obtain ⟨k0, k1, k2, k3, k4, k5, k6⟩ := hk
  obtain ⟨l, a, ⟨c1, c2, c3⟩, f1, f2, f3⟩ := hWG g b4
  obtain ⟨g0, g1, g2⟩ := hTG g b4
  have hl : tn (τ.1 8 g) = l := by rw [f1, tn_nI (by omega)]
  rw [hl] at b5 g2
  obtain ⟨s, hs4, hs⟩ := f3 q b5
  have hgk : gaiK B (σ.1 K 3) = B + 10 + g := by rw [k3, e4]; exact gaiK_n (by omega)
  have hstp : stp σ B K = nI s := by unfold stp; rw [hgk, k4, e5, g2 q b5, hs]
  have hsp : spM τ w = nI s := by unfold spM; rw [e4, e5, tn8g (by omega) (by omega), hs]
  have haw : σ.1 (gaiK B (σ.1 K 3)) 1 = nI a := by rw [hgk, g1, f2]
  have hlen : σ.1 (gaiK B (σ.1 K 3)) 0 = nI l := by rw [hgk, g0, f1]
  have hawM : τ.1 9 (tn (τ.1 15 w)) = nI a := by rw [e4, tn_nI (by omega), f2]
  have hlM : τ.1 8 (tn (τ.1 15 w)) = nI l := by rw [e4, tn_nI (by omega), f1]
  obtain ⟨hd1, q', hq', hd2⟩ := dn_ok l (by omega) q b5
  have X4 : (stepX σ B K).1 K 4 = nI q' := by unfold stepX; rw [xI_s, k4, e5, hlen, hd1, hd2]
  have M16 : (doM τ w).1 16 w = nI q' := by unfold doM; rw [xI_s, e5, hlM, hd2]
  have hs3 : ∀ n, n < 4 → n ≠ 0 → ¬ nI n = 0 := fun n h1 h2 => nI_ne0 (by omega) (by omega)
  have hm : ∀ n, n < 2 ^ 31 → ¬ nI n = -1 := fun n h => nm1_nI h
  have XP : ∃ p' d', p' < 49 ∧ d' < 4 ∧ (stepX σ B K).1 K 1 = nI p' ∧ (stepX σ B K).1 K 2 = nI d' ∧ (doM τ w).1 13 w = nI p' ∧ (doM τ w).1 14 w = nI d' := by
    rw [stepX_p, stepX_d, doM_13, doM_14, hsp, hstp, haw, hawM, k1, k2, k5, trM_e, trM_e, e2, e3, e6]
    unfold tgt
    rw [hstp, k1, k2, e2, e3]
    by_cases hs0 : s = 0
    · subst hs0
      rw [if_pos nI_00, if_pos nI_00, if_pos nI_00]
      obtain ⟨z1, d', hd', z2⟩ := trn_0 d b3 t b6 a c3
      rcases ah_eq (τ := τ) b2 b3 with ⟨h1, h2⟩ | ⟨u, hu, h1, h2⟩
      · rw [h1, h2, if_neg (fun h => h.1 rfl), if_neg (fun h => h.1 rfl), if_pos rfl, if_pos rfl]
        exact ⟨p, d', b2, hd', rfl, by rw [← z2, ← z1]; rfl, rfl, z2⟩
      · rw [h1, h2]
        by_cases hwl : τ.1 10 u = 1
        · rw [if_pos hwl, if_neg (fun h => h.2 ((hTL u hu).mpr hwl)), if_neg (fun h => h.2 ((hTL u hu).mpr hwl)), if_pos rfl, if_pos rfl]
          exact ⟨p, d', b2, hd', rfl, by rw [← z2, ← z1]; rfl, rfl, z2⟩
        · have hc : ¬ nI u = -1 ∧ ¬ xlushr (σ.2 B 0) (nI u) &&& 1 = 1 := ⟨hm u (by omega), fun h => hwl ((hTL u hu).mp h)⟩
          rw [if_neg hwl, if_pos hc, if_pos hc, if_neg hc.1, if_neg hc.1]
          exact ⟨u, d, hu, b3, rfl, rfl, rfl, rfl⟩
    · have h0 := hs3 s hs4 hs0
      rw [if_neg h0, if_neg h0, if_neg h0, if_neg (fun h => h.1 rfl), if_neg (fun h => h.1 rfl)]
      by_cases hs1 : s < 3
      · obtain ⟨s', rfl⟩ : ∃ s', s = s' + 1 := ⟨s - 1, by omega⟩
        obtain ⟨z1, d', hd', z2⟩ := trn_s d b3 t b6 a c3 s' (by omega)
        have c3' : nI (s' + 1) < 3 := (nI_ltI (b := 3) (by omega) (by omega)).mpr hs1
        rw [if_pos c3']
        exact ⟨p, d', b2, hd', rfl, by rw [z1, z2], rfl, z2⟩
      · have hs3' : s = 3 := by omega
        subst hs3'
        have c3n : ¬ nI 3 < 3 := by decide
        rw [if_neg c3n]
        exact ⟨p, d, b2, b3, rfl, trn_3 d b3 t b6 a c3, rfl, rfl⟩
  obtain ⟨p', d', hp', hd', x1, x2, m1, m2⟩ := XP
  have m11 : ∀ c, c ≠ 13 → c ≠ 14 → c ≠ 16 → (doM τ w).1 c w = τ.1 c w := fun c h1 h2 h3 => doM_o (Or.inr ⟨h1, h2, h3⟩)
  have m8 : ∀ b, (doM τ w).1 8 b = τ.1 8 b := fun b => doM_o (Or.inr (by omega))
  refine ⟨⟨?_, by rw [x1, m1], by rw [x2, m2], ?_, by rw [X4, M16], ?_, ?_⟩, k, p', d', g, q', t, ⟨b1, hp', hd', b4, by rw [m8, hl]; exact hq', b6⟩, ?_, m1, m2, ?_, M16, ?_⟩
  · rw [stepX_r (by omega), k0, m11 11 (by omega) (by omega) (by omega)]
  · rw [stepX_r (by omega), k3, m11 15 (by omega) (by omega) (by omega)]
  · rw [stepX_r (by omega), k5, m11 17 (by omega) (by omega) (by omega)]
  · rw [stepX_r (by omega), k6, m11 12 (by omega) (by omega) (by omega)]
  · rw [m11 11 (by omega) (by omega) (by omega), e1]
  · rw [m11 15 (by omega) (by omega) (by omega), e4]
  · rw [m11 17 (by omega) (by omega) (by omega), e6]
/-! alone, side by side -/
theorem beatX_1 {S : xS} (h : S.1 200 2 = 1) : beatX 200 S = xI (remX (stepX S 200 220) 220) 220 7 0 := by
  have e1 : tn (S.1 200 2) = 1 := by rw [h]; rfl
  unfold beatX
  rw [e1]
  have s1 : st1 200 1 S = remX (stepX S 200 220) 220 := rfl
  rw [s1]
  have c1 : (remX (stepX S 200 220) 220).1 200 2 = 1 := by rw [remX_o (by omega), stepX_o (by omega)]; exact h
  generalize remX (stepX S 200 220) 220 = Z at *
  have s2 : st2 200 1 Z = meetX Z 200 220 (nxt Z 200 (nI 0)) := rfl
  have n1 : nxt Z 200 (nI 0) = -1 := by
    unfold nxt
    rw [c1]
    have e : tn (1 : Int32) = 1 := rfl
    rw [e]
    unfold nxtN
    exact if_neg (Nat.not_lt_zero _)
  rw [s2, n1, meetX_no]
  have s3 : st3 200 1 (xI Z 220 7 0) = if (xI Z 220 7 0).1 220 7 = 0 then loudX (xI Z 220 7 0) 200 220 else xI Z 220 7 0 := rfl
  rw [s3, xI_s, if_pos rfl]
  have c2 : (xI Z 220 7 0).1 200 2 = 1 := by rw [xI_n (by omega)]; exact c1
  generalize xI Z 220 7 0 = Y at *
  unfold loudX
  rw [c2]
  have e : tn (1 : Int32) = 1 := rfl
  rw [e]
  have p0 : ldP Y 200 220 0 = false := by
    unfold ldP
    refine decide_eq_false (fun q => ?_)
    have q2 := q.2.1
    have ek : (200 + 20 + 0 : Nat) = 220 := rfl
    rw [ek, Int32.sub_self, Int32.sub_self] at q2
    exact absurd q2 (by decide)
  have x1 : xfs (ldP Y 200 220) 1 = 1 := by
    have := (xfs_b (P := ldP Y 200 220) (n := 1)).2
    have l := xfs_le (ldP Y 200 220) 1
    rcases Nat.lt_or_ge (xfs (ldP Y 200 220) 1) 1 with z | z
    · have z0 : xfs (ldP Y 200 220) 1 = 0 := by omega
      have := this z
      rw [z0, p0] at this
      exact absurd this (by decide)
    · omega
  rw [x1, if_neg (Nat.lt_irrefl 1)]
def AL (G x : Nat) (S T : xS) : Prop := (TK S 220 T.1 x ∧ wfW T.1 G x) ∧ (∀ g, g < G → wfG T.1 g) ∧ (∀ g, g < G → TG 200 S T.1 g) ∧ TL (S.2 200 0) T.1 ∧ S.1 200 2 = 1
theorem AL_s {G x : Nat} {S T : xS} (hG : G ≤ 8) (h : AL G x S T) : AL G x (beatX 200 S) (doM T x) := by
  obtain ⟨⟨h1, h2⟩, h3, h4, h5, h6⟩ := h
  obtain ⟨⟨k0, k1, k2, k3, k4, k5, k6⟩, w2⟩ := step_ok1 hG h3 h4 h5 h1 h2
  rw [beatX_1 h6]
  have hx : ∀ a b, a ≠ 220 → (xI (remX (stepX S 200 220) 220) 220 7 0).1 a b = S.1 a b := fun a b q => by rw [xI_n (by omega), remX_o q, stepX_o q]
  have hk : ∀ b, b < 7 → (xI (remX (stepX S 200 220) 220) 220 7 0).1 220 b = (stepX S 200 220).1 220 b := fun b q => by rw [xI_n (by omega), remX_r (by omega)]
  have hx2 : (xI (remX (stepX S 200 220) 220) 220 7 0).2 200 0 = S.2 200 0 := by
    show (remX (stepX S 200 220) 220).2 200 0 = _
    rw [remX_2, stepX_2]
  have hm : ∀ a c, a ≠ 13 → a ≠ 14 → a ≠ 16 → (doM T x).1 a c = T.1 a c := fun a c q1 q2 q3 => doM_o (Or.inr ⟨q1, q2, q3⟩)
  generalize xI (remX (stepX S 200 220) 220) 220 7 0 = Y at *
  refine ⟨⟨⟨by rw [hk _ (by omega)]; exact k0, by rw [hk _ (by omega)]; exact k1, by rw [hk _ (by omega)]; exact k2, by rw [hk _ (by omega)]; exact k3, by rw [hk _ (by omega)]; exact k4, by rw [hk _ (by omega)]; exact k5, by rw [hk _ (by omega)]; exact k6⟩, w2⟩, fun g hg => wfG_v (fun a c q1 q2 => hm a c (by omega) (by omega) (by omega)) (h3 g hg), fun g hg => ?_, fun p hp => ?_, ?_⟩
  · obtain ⟨b1, b2, b3⟩ := h4 g hg
    refine ⟨?_, ?_, fun j hj => ?_⟩
    · rw [hx _ _ (by omega), hm _ _ (by omega) (by omega) (by omega)]; exact b1
    · rw [hx _ _ (by omega), hm _ _ (by omega) (by omega) (by omega)]; exact b2
    · rw [hm _ _ (by omega) (by omega) (by omega)] at hj
      rw [hx _ _ (by omega), hm _ _ (by omega) (by omega) (by omega)]; exact b3 j hj
  · rw [hx2, hm _ _ (by omega) (by omega) (by omega)]; exact h5 p hp
  · rw [hx _ _ (by omega)]; exact h6
theorem AL_k {G x : Nat} {S T : xS} (hG : G ≤ 8) (h : AL G x S T) : ∀ k, AL G x (gbX 200 k S) (dnM x k T)
  | 0 => h
  | k + 1 => by
    rw [gbX_s, ← dnM_s]
    exact AL_s hG (AL_k hG h k)
theorem AL_dy {G x : Nat} {S T : xS} (hG : G ≤ 8) (h : AL G x S T) : dyP T x := by
  obtain ⟨⟨-, hw⟩, hg, -⟩ := h
  obtain ⟨k, p, d, g, q, t, ⟨b1, b2, b3, b4, b5, b6⟩, e1, e2, e3, e4, e5, e6⟩ := hw
  obtain ⟨l, a, ⟨c1, c2, c3⟩, f1, f2, f3⟩ := hg g b4
  rw [f1, tn_nI (by omega)] at b5
  unfold dyP
  have hix : 8 * nI g + nI q = nI (8 * g + q) := by rw [show (8 : Int32) = nI 8 from rfl, pk_mul, nI_add]
  rw [e4, e5, hix, tn_nI (by omega), tn_nI (by omega), f1]
  exact ⟨⟨nI_pos' (by omega), by omega⟩, ⟨nI_pos' (by omega), by omega⟩, nI_ne0 (by omega) (by omega)⟩
theorem cpW_c {σ : xS} {K J : Nat} : ∀ b, b < 7 → (cpW σ K J).1 K b = σ.1 J b := by
  intro b hb
  unfold cpW
  by_cases e6 : b = 6
  · subst e6; rw [xI_s]
  · rw [xI_n (by omega)]
    by_cases e5 : b = 5
    · subst e5; rw [xI_s]
    · rw [xI_n (by omega)]
      by_cases e4 : b = 4
      · subst e4; rw [xI_s]
      · rw [xI_n (by omega)]
        by_cases e3 : b = 3
        · subst e3; rw [xI_s]
        · rw [xI_n (by omega)]
          by_cases e2 : b = 2
          · subst e2; rw [xI_s]
          · rw [xI_n (by omega)]
            by_cases e1 : b = 1
            · subst e1; rw [xI_s]
            · have e0 : b = 0 := by omega
              subst e0
              rw [xI_n (by omega), xI_s]
theorem cpW_o' {σ : xS} {K J a b : Nat} (h : a ≠ K) : (cpW σ K J).1 a b = σ.1 a b := by
  unfold cpW
  rw [xI_n (by omega), xI_n (by omega), xI_n (by omega), xI_n (by omega), xI_n (by omega), xI_n (by omega), xI_n (by omega)]
theorem FR_alo {σ : xS} {x : Int32} (h : FR σ (thX σ 0)) : FR σ (aloS σ x) := by
  refine FR_t h ⟨fun a b q => ?_, fun a b _ _ _ => rfl⟩
  unfold aloS
  rw [xI_n (by omega), cpW_o' (by omega)]
theorem AL_0 {G N x : Nat} {σ τ : xS} (h : RRn G N σ τ) (hx : x < N) : AL G x (aloS σ (nI x)) (bgM τ) := by
  obtain ⟨⟨hG, hN⟩, -, -⟩ := RRn_G h
  have t := th_b h 0
  obtain ⟨tT, tW⟩ := t
  have tT : TW 200 G N (thX σ 0) (bgM τ).1 := tT
  have tW : WF G N (bgM τ).1 := tW
  have hw : whoK 200 (nI x) = 200 + 20 + x := whoK_n (by omega)
  unfold aloS
  rw [hw]
  generalize thX σ 0 = Z at *
  generalize bgM τ = U at *
  have ho : ∀ a b, a ≠ 220 → ¬ (a = 200 ∧ b = 2) → (xI (cpW Z 220 (200 + 20 + x)) 200 2 1).1 a b = Z.1 a b := fun a b q1 q2 => by rw [xI_n q2, cpW_o' q1]
  have hk : ∀ b, b < 7 → (xI (cpW Z 220 (200 + 20 + x)) 200 2 1).1 220 b = Z.1 (200 + 20 + x) b := fun b q => by rw [xI_n (by omega), cpW_c b q]
  obtain ⟨k0, k1, k2, k3, k4, k5, k6⟩ := tT.2.2.1 x hx
  refine ⟨⟨⟨by rw [hk _ (by omega)]; exact k0, by rw [hk _ (by omega)]; exact k1, by rw [hk _ (by omega)]; exact k2, by rw [hk _ (by omega)]; exact k3, by rw [hk _ (by omega)]; exact k4, by rw [hk _ (by omega)]; exact k5, by rw [hk _ (by omega)]; exact k6⟩, tW.2.2.1 x hx⟩, tW.2.1, fun g hg => ?_, tT.2.2.2, xI_s⟩
  obtain ⟨b1, b2, b3⟩ := tT.2.1 g hg
  exact ⟨by rw [ho _ _ (by omega) (by omega)]; exact b1, by rw [ho _ _ (by omega) (by omega)]; exact b2, fun j hj => by rw [ho _ _ (by omega) (by omega)]; exact b3 j hj⟩
theorem dnM_o {x a c : Nat} {T : xS} (h : a ≠ 13 ∧ a ≠ 14 ∧ a ≠ 16) : ∀ {k : Nat}, (dnM x k T).1 a c = T.1 a c
  | 0 => rfl
  | k + 1 => by rw [← dnM_s, doM_o (Or.inr h)]; exact dnM_o h
theorem dnM_2 {x : Nat} {T : xS} : ∀ {k : Nat}, (dnM x k T).2 = T.2
  | 0 => rfl
  | k + 1 => by rw [← dnM_s, doM_2]; exact dnM_2
theorem ok_alone {G N : Nat} {σ τ : xS} (h : RRn G N σ τ) (n x y : Int32) : OKp (aloX σ n x y) (aloM τ n x y) := by
  obtain ⟨⟨hG, hN⟩, ⟨c1, c2⟩, ⟨c3, c4⟩⟩ := RRn_G h
  unfold aloX aloM
  rw [c3, c4]
  by_cases hx : 0 ≤ x ∧ x < nI N
  · rw [if_neg (not_not_intro hx), if_neg (not_not_intro hx)]
    by_cases hy : 0 ≤ y ∧ y ≤ 4
    · rw [if_neg (not_not_intro hy), if_neg (show ¬ (y < 0 ∨ 4 < y) from fun q => (nrg.mpr q) hy)]
      by_cases hn : 0 ≤ n ∧ n ≤ 400
      · rw [if_neg (not_not_intro hn), if_neg (not_not_intro hn)]
        obtain ⟨w, hw, rfl⟩ := rgl (by omega) hx
        obtain ⟨m, hm, rfl⟩ := nI_rl (k := 4) (by omega) hy.1 hy.2
        rw [tn_nI (i := w) (by omega)]
        have hA := AL_0 h hw
        have hk := (AL_k hG hA (tn n)).1.1
        have hF := FR_alo (x := nI w) (FR_th0 h 0)
        have h62 := hA.2.2.2.2
        refine OKp_2 ?_ ⟨G, N, RRn_f (XF_FR (FR_t hF ?_)) (back_ok hN (fun a c q q2 => dnM_o (by omega)) (fun c => by rw [dnM_2]; rfl)) h⟩
        · have e0 : whoK 200 0 = 220 := whoK_n (i := 0) (by omega)
          rw [e0]
          refine tld_of (T := dnM w (tn n) (bgM τ)) ?_ (by omega)
          obtain ⟨k0, k1, k2, k3, k4, k5, k6⟩ := hk
          unfold gbsX
          refine ⟨?_, ?_, ?_, ?_, ?_, ?_, ?_⟩ <;> rw [xI_n (by omega), xI_n (by omega)] <;> assumption
        · refine FR_t (FR_gb (by rw [h62]; decide) (tn n)) ?_
          unfold gbsX
          exact FR_t (FR_xI (by omega) (by omega)) (FR_xI (by omega) (by omega))
      · rw [if_pos hn, if_pos hn]
        exact no_p rk6 h
    · rw [if_pos hy, if_pos (nrg.mp hy)]
      exact no_p rk5 h
  · rw [if_pos hx, if_pos hx]
    exact no_p rk1 h
