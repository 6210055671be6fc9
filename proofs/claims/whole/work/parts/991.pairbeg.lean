/-! began, side by side -/
theorem rem_ok : ∀ l, l < 9 → ∀ q, q < 8 → 0 < l → ∃ e, e < l ∧ xrem (nI q) (nI l) = nI e := by decide +kernel
/-- what a began leaves of the reference, while it runs -/
def MB (N x : Nat) (τ τ' : xS) : Prop := (∀ c, c < 6 ∨ c = 48 ∨ c = 49 → τ'.1 0 c = τ.1 0 c) ∧ (∀ a c, (6 ≤ a ∧ a ≤ 10) ∨ (23 ≤ a ∧ a ≤ 26) ∨ a = 29 ∨ a = 39 ∨ a = 47 → τ'.1 a c = τ.1 a c) ∧ (∀ a w, 11 ≤ a → a ≤ 17 → w < N → ¬ ((a = 15 ∨ a = 16) ∧ w = x) → τ'.1 a w = τ.1 a w) ∧ (∀ c, τ'.2 27 c = τ.2 27 c)
theorem MB_r {N x : Nat} {τ : xS} : MB N x τ τ := ⟨fun _ _ => rfl, fun _ _ _ => rfl, fun _ _ _ _ _ _ => rfl, fun _ => rfl⟩
theorem MB_t {N x : Nat} {τ υ ω : xS} (h : MB N x τ υ) (h' : MFr N υ ω) : MB N x τ ω := ⟨fun c q => (h'.1 c q).trans (h.1 c q), fun a c q => (h'.2.1 a c q).trans (h.2.1 a c q), fun a w q1 q2 q3 q4 => (h'.2.2.1 a w q1 q2 q3).trans (h.2.2.1 a w q1 q2 q3 q4), fun c => (h'.2.2.2 c).trans (h.2.2.2 c)⟩
theorem MB_u {N x g : Nat} {d0 : Int32} {τ υ : xS} (hx : x < 6) (h : MB N x τ υ) : MB N x τ (bnU υ (nI x) d0 g) := by
  refine ⟨fun c q => ?_, fun a c q => ?_, fun a w q1 q2 q3 q4 => ?_, fun c => h.2.2.2 c⟩
  · rw [bnU_o (by omega)]; exact h.1 c q
  · rw [bnU_o (by omega)]; exact h.2.1 a c q
  · unfold bnU
    rw [tn_nI (by omega), xI_n (by omega), xI_n (by omega)]
    exact h.2.2.1 a w q1 q2 q3 q4
theorem MB_e {N x : Nat} {τ υ : xS} (h : MB N x τ υ) : MFr N τ (xI (xI υ 15 x (τ.1 15 x)) 16 x (τ.1 16 x)) := by
  refine ⟨fun c q => ?_, fun a c q => ?_, fun a w q1 q2 q3 => ?_, fun c => h.2.2.2 c⟩
  · rw [xI_n (by omega), xI_n (by omega)]; exact h.1 c q
  · rw [xI_n (by omega), xI_n (by omega)]; exact h.2.1 a c q
  · by_cases e : (a = 15 ∨ a = 16) ∧ w = x
    · obtain ⟨rfl | rfl, rfl⟩ := e
      · rw [xI_n (by omega), xI_s]
      · rw [xI_s]
    · rw [xI_n (by omega), xI_n (by omega)]
      exact h.2.2.1 a w q1 q2 q3 e
theorem beg_TW {G N x g : Nat} {σ τ S T : xS} (h : RRn G N σ τ) (hX : XF σ S) (hM : MB N x τ T) (hx : x < N) (hg : g < G) : TW 200 G N (bgoX (thX S 0) 200 (nI x) (nI g)) (bgM (bnU T (nI x) (τ.1 16 x) g)).1 ∧ WF G N (bgM (bnU T (nI x) (τ.1 16 x) g)).1 := by
  obtain ⟨⟨hG, hN⟩, ⟨c1, c2⟩, ⟨c3, c4⟩⟩ := RRn_G h
  have t := th_b (RRn_f hX MFr_r h) 0
  obtain ⟨tT, tW⟩ := t
  have tT : TW 200 G N (thX S 0) (bgM τ).1 := tT
  have tW : WF G N (bgM τ).1 := tW
  have hv : ∀ a c, a ≤ 17 → (bgM τ).1 a c = τ.1 a c := fun a c q => bgM_o (by omega)
  have hu : ∀ a c, a ≤ 17 → (bgM (bnU T (nI x) (τ.1 16 x) g)).1 a c = (bnU T (nI x) (τ.1 16 x) g).1 a c := fun a c q => bgM_o (by omega)
  have ht : tn (nI x) = x := tn_nI (by omega)
  have u15 : (bnU T (nI x) (τ.1 16 x) g).1 15 x = nI g := by unfold bnU; rw [ht, xI_n (by omega), xI_s]
  have u16 : (bnU T (nI x) (τ.1 16 x) g).1 16 x = xrem (τ.1 16 x) (τ.1 8 g) := by unfold bnU; rw [ht, xI_s, hM.2.1 8 g (by omega)]
  have uo : ∀ a c, a ≤ 17 → ¬ ((a = 15 ∨ a = 16) ∧ c = x) → (bnU T (nI x) (τ.1 16 x) g).1 a c = T.1 a c := fun a c _ q => by unfold bnU; rw [ht, xI_n (by omega), xI_n (by omega)]
  generalize bnU T (nI x) (τ.1 16 x) g = U at *
  obtain ⟨k, p, d, g0, q, t, ⟨b1, b2, b3, b4, b5, b6⟩, e1, e2, e3, e4, e5, e6⟩ := tW.2.2.1 x hx
  obtain ⟨l0, a0, ⟨l01, l02, l03⟩, f01, f02, f03⟩ := tW.2.1 g0 b4
  rw [f01, tn_nI (by omega)] at b5
  obtain ⟨l, a, ⟨l1, l2, l3⟩, f1, f2, f3⟩ := tW.2.1 g hg
  obtain ⟨r, hr, er⟩ := rem_ok l (by omega) q (by omega) (by omega)
  rw [hv 16 x (by omega)] at e5
  rw [hv 8 g (by omega)] at f1
  rw [e5, f1, er] at u16
  have hw : whoK 200 (nI x) = 200 + 20 + x := whoK_n (by omega)
  have hk := tT.2.2.1 x hx
  have hgl : (thX S 0).1 (gaiK 200 (nI g)) 0 = nI l := by rw [gaiK_n (by omega), (tT.2.1 g hg).1, hv 8 g (by omega), f1]
  have hd : (thX S 0).1 (200 + 20 + x) 4 = nI q := by rw [hk.2.2.2.2.1, hv 16 x (by omega), e5]
  have hpos : 0 < nI l := (nI_ltI (a := 0) (by omega) (by omega)).mpr (by omega)
  have hσ : ∀ a b, a ≠ 200 + 20 + x → (bgoX (thX S 0) 200 (nI x) (nI g)).1 a b = (thX S 0).1 a b := fun a b q => by unfold bgoX; rw [hw, xI_n (by omega), xI_n (by omega)]
  have s3 : (bgoX (thX S 0) 200 (nI x) (nI g)).1 (200 + 20 + x) 3 = nI g := by unfold bgoX; rw [hw, xI_n (by omega), xI_s]
  have s4 : (bgoX (thX S 0) 200 (nI x) (nI g)).1 (200 + 20 + x) 4 = nI r := by unfold bgoX; rw [hw, xI_s, hgl, if_pos hpos, hd, er]
  have so : ∀ b, b ≠ 3 → b ≠ 4 → (bgoX (thX S 0) 200 (nI x) (nI g)).1 (200 + 20 + x) b = (thX S 0).1 (200 + 20 + x) b := fun b q1 q2 => by unfold bgoX; rw [hw, xI_n (by omega), xI_n (by omega)]
  have s2 : (bgoX (thX S 0) 200 (nI x) (nI g)).2 200 0 = (thX S 0).2 200 0 := rfl
  generalize bgoX (thX S 0) 200 (nI x) (nI g) = Y at *
  generalize thX S 0 = Z at *
  obtain ⟨V, hV⟩ : ∃ V : Nat → Nat → Int32, V = fun a c => if 11 ≤ a ∧ c = x then U.1 a c else (bgM τ).1 a c := ⟨_, rfl⟩
  have Vx : ∀ a, 11 ≤ a → V a x = U.1 a x := fun a q => by rw [hV]; exact if_pos ⟨q, rfl⟩
  have Vo : ∀ a c, ¬ (11 ≤ a ∧ c = x) → V a c = (bgM τ).1 a c := fun a c q => by rw [hV]; exact if_neg q
  have hm : ∀ a, 11 ≤ a → a ≤ 17 → a ≠ 15 → a ≠ 16 → U.1 a x = (bgM τ).1 a x := fun a q1 q2 q3 q4 => by rw [uo a x q2 (by omega), hM.2.2.1 a x q1 q2 hx (by omega), hv a x q2]
  have hTK : TK Y (200 + 20 + x) V x := by
    obtain ⟨k0, k1, k2, k3, k4, k5, k6⟩ := hk
    refine ⟨?_, ?_, ?_, ?_, ?_, ?_, ?_⟩
    · rw [so 0 (by omega) (by omega), Vx _ (by omega), hm _ (by omega) (by omega) (by omega) (by omega)]; exact k0
    · rw [so 1 (by omega) (by omega), Vx _ (by omega), hm _ (by omega) (by omega) (by omega) (by omega)]; exact k1
    · rw [so 2 (by omega) (by omega), Vx _ (by omega), hm _ (by omega) (by omega) (by omega) (by omega)]; exact k2
    · rw [s3, Vx _ (by omega), u15]
    · rw [s4, Vx _ (by omega), u16]
    · rw [so 5 (by omega) (by omega), Vx _ (by omega), hm _ (by omega) (by omega) (by omega) (by omega)]; exact k5
    · rw [so 6 (by omega) (by omega), Vx _ (by omega), hm _ (by omega) (by omega) (by omega) (by omega)]; exact k6
  have hwf : wfW V G x := by
    refine ⟨k, p, d, g, r, t, ⟨b1, b2, b3, hg, ?_, b6⟩, ?_, ?_, ?_, ?_, ?_, ?_⟩
    · rw [Vo 8 g (by omega), hv 8 g (by omega), f1, tn_nI (by omega)]; exact hr
    · rw [Vx _ (by omega), hm _ (by omega) (by omega) (by omega) (by omega)]; exact e1
    · rw [Vx _ (by omega), hm _ (by omega) (by omega) (by omega) (by omega)]; exact e2
    · rw [Vx _ (by omega), hm _ (by omega) (by omega) (by omega) (by omega)]; exact e3
    · rw [Vx _ (by omega)]; exact u15
    · rw [Vx _ (by omega)]; exact u16
    · rw [Vx _ (by omega), hm _ (by omega) (by omega) (by omega) (by omega)]; exact e6
  have T1 := TW_upd tT hG hσ s2 (fun a c _ q => Vo a c q) hTK
  have W1 := WF_upd tW (fun a c _ q => Vo a c q) hwf
  have g7 : ∀ a c, 7 ≤ a → a ≤ 10 → (bgM U).1 a c = V a c := fun a c q1 q2 => by rw [hu a c (by omega), Vo a c (by omega), uo a c (by omega) (by omega), hM.2.1 a c (by omega), hv a c (by omega)]
  have gw : ∀ a w, 11 ≤ a → a ≤ 17 → w < N → (bgM U).1 a w = V a w := fun a w q1 q2 q3 => by
    rw [hu a w (by omega)]
    by_cases e : w = x
    · rw [e, Vx a q1]
    · rw [Vo a w (by omega), uo a w (by omega) (by omega), hM.2.2.1 a w q1 q2 q3 (by omega), hv a w (by omega)]
  have g0' : ∀ c, c < 6 → (bgM U).1 0 c = V 0 c := fun c q => by rw [hu 0 c (by omega), Vo 0 c (by omega), uo 0 c (by omega) (by omega), hM.1 c (by omega), hv 0 c (by omega)]
  exact ⟨TW_v g7 gw T1, WF_v ⟨g0' 0 (by omega), g0' 1 (by omega)⟩ g7 gw W1⟩
theorem XF_bg {G N K : Nat} {n x : Int32} {σ τ : xS} (h : RRn G N σ τ) (i : Nat) : FR σ (bwF σ K n x i).2 := by
  obtain ⟨⟨hG, hN⟩, ⟨c1, c2⟩, ⟨c3, c4⟩⟩ := RRn_G h
  exact FR_bg (by rw [c3]; exact nI_le (b := 6) hN (by omega)) (by rw [c1]; exact nI_le (b := 8) hG (by omega)) i
theorem MB_S {G N x : Nat} {d0 : Int32} {σ τ : xS} (h : RRn G N σ τ) (hx : x < N) : ∀ g, MB N x τ (bnS fitsT τ (nI x) d0 g)
  | 0 => MB_r
  | g + 1 => by
    have hN := (RRn_G h).1.2
    rw [← bnS_s]
    exact MB_t (MB_u (by omega) (MB_S h hx g)) (gb_back hN _)
theorem beg_ok {G N s x : Nat} {n : Int32} {σ τ : xS} (h : RRn G N σ τ) (hs : s < 8) (hx : x < N) (hw : wnr σ (10 + s) = 0) (hz : wns σ (10 + s) n = 0) : ∀ g, g ≤ G → (bwF σ (10 + s) n (nI x) g).1 = bnA fitsT (fun τ => fitsV τ (nI s) n) τ n (nI x) (τ.1 16 x) g
  | 0, _ => rfl
  | g + 1, hg => by
    have ih := beg_ok h hs hx hw hz g (by omega)
    have hF := XF_bg (K := 10 + s) (n := n) (x := nI x) h g
    have hM := MB_S (d0 := τ.1 16 x) h hx g
    rw [bwF_s, bnA_s]
    unfold bw1
    dsimp only
    rw [ih]
    generalize (bwF σ (10 + s) n (nI x) g).2 = S at *
    have b := beg_TW h (XF_FR hF) hM hx (show g < G by omega)
    have hU := MB_u (d0 := τ.1 16 x) (g := g) (show x < 6 by have := (RRn_G h).1.2; omega) hM
    generalize bnU (bnS fitsT τ (nI x) (τ.1 16 x) g) (nI x) (τ.1 16 x) g = U at *
    have hs8 : 0 ≤ nI s ∧ nI s < 8 := ⟨nI_pos' (by omega), (nI_ltI (b := 8) (by omega) (by omega)).mpr hs⟩
    have hK : xSh (10 + s) := by have := sh8 hs8; rwa [tn_nI (by omega)] at this
    have hS := RRn_f (XF_FR hF) (MFr_r (N := N)) h
    have hF2 : FR σ (bwT S (10 + s) n (nI x) g) := FR_t hF (FR_t (FR_th0 hS 0) FR_bgo)
    have e : snV (bwT S (10 + s) n (nI x) g) (10 + s) n = fitsV U (nI s) n := by
      unfold snV fitsV
      refine fits_eq (T := bgM U) b.1 b.2 rfl (fun i hi => ?_)
      obtain ⟨⟨a1, a2, a3⟩, a4⟩ := sg_nums h hs hw hz i hi
      have hi : ∀ y, inM (bgM U) (nI s) y = inM τ (nI s) y := fun y => by
        unfold inM
        show ((U.2 27 _).toInt32 : Int32) = _
        rw [hU.2.2.2]
      rw [nmA_F hF2 hK, nmA_F hF2 hK, nmA_F hF2 hK, hi, hi, hi]
      exact ⟨⟨a1, a2, a3⟩, a4⟩
    rw [e]
theorem ok_began {G N : Nat} {σ τ : xS} (h : RRn G N σ τ) (s n x : Int32) : OKp (begX σ s n x) (begM τ s n x) := by
  obtain ⟨⟨hG, hN⟩, ⟨c1, c2⟩, ⟨c3, c4⟩⟩ := RRn_G h
  unfold begX begM
  rw [c1, c2, c3, c4, tn_nI (i := G) (by omega)]
  by_cases hs : 0 ≤ s ∧ s < 8
  · by_cases hx : 0 ≤ x ∧ x < nI N
    · rw [if_pos ⟨hs, hx⟩, if_neg (show ¬ ((0 ≤ s ∧ s < 8) ∧ ¬ (0 ≤ x ∧ x < nI N)) from fun q => q.2 hx)]
      obtain ⟨s', hs', rfl⟩ := rgl (n := 8) (by omega) hs
      obtain ⟨x', hx', rfl⟩ := rgl (by omega) hx
      rw [sit_eq h hs' n, tn_nI (i := s') (by omega), tn_nI (i := x') (by omega)]
      by_cases hw : wnr σ (10 + s') = 0
      · rw [if_pos hw, if_pos hw]
        by_cases hz : wns σ (10 + s') n = 0
        · rw [if_pos hz, if_neg (not_not_intro hz)]
          exact OKp_i (beg_ok h hs' hx' hw hz G (Nat.le_refl _)) (RRn_f (XF_FR (XF_bg h G)) (MB_e (MB_S h hx' G)) h)
        · rw [if_neg hz, if_pos hz]
          obtain ⟨k, hk⟩ := wns_k hz
          exact no_p hk h
      · rw [if_neg hw, if_neg hw, if_pos hw]
        obtain ⟨k, hk⟩ := wnr_k hw
        exact no_p hk h
    · rw [if_neg (show ¬ ((0 ≤ s ∧ s < 8) ∧ (0 ≤ x ∧ x < nI N)) from fun q => hx q.2), if_pos ⟨hs, hx⟩]
      exact no_p rk1 h
  · rw [if_neg (show ¬ ((0 ≤ s ∧ s < 8) ∧ (0 ≤ x ∧ x < nI N)) from fun q => hs q.1), if_neg (show ¬ ((0 ≤ s ∧ s < 8) ∧ ¬ (0 ≤ x ∧ x < nI N)) from fun q => hs q.1), sit_no hs, if_pos (by decide)]
    exact no_p rk1 h
