/-- what an item leaves -/
def CTX (σ : xS) : Prop := (0 ≤ σ.1 400 1 ∧ σ.1 400 1 ≤ 8) ∧ (0 ≤ σ.1 400 2 ∧ σ.1 400 2 ≤ 6)
def kpI (σ τ : xS) : Prop := (∀ a b, a ≠ 2 → a ≠ 400 → ¬ (410 ≤ a ∧ a < 430) → τ.1 a b = σ.1 a b) ∧ (∀ a b, a ≠ 400 → τ.2 a b = σ.2 a b) ∧ τ.1 2 2 = σ.1 2 2
def KI (σ τ : xS) : Prop := kpI σ τ ∧ CTX τ
theorem kpI_r {σ : xS} : kpI σ σ := ⟨fun _ _ _ _ _ => rfl, fun _ _ _ => rfl, rfl⟩
theorem KI_t {σ τ υ : xS} (h : KI σ τ) (h' : KI τ υ) : KI σ υ := ⟨⟨fun a b h1 h2 h3 => (h'.1.1 a b h1 h2 h3).trans (h.1.1 a b h1 h2 h3), fun a b h1 => (h'.1.2.1 a b h1).trans (h.1.2.1 a b h1), h'.1.2.2.trans h.1.2.2⟩, h'.2⟩
theorem CTX_e {σ τ : xS} (h : CTX σ) (h1 : τ.1 400 1 = σ.1 400 1) (h2 : τ.1 400 2 = σ.1 400 2) : CTX τ := by
  unfold CTX
  rw [h1, h2]
  exact h
theorem KI_2 {σ τ : xS} (h : CTX σ) (k : kp2 σ τ) : KI σ τ := ⟨⟨fun a b h1 _ _ => k.1 a b h1, fun a b _ => by rw [k.2.2], k.2.1⟩, CTX_e h (k.1 400 1 (by decide)) (k.1 400 2 (by decide))⟩
theorem KI_J {σ : xS} {v : Int64} (h : CTX σ) : KI σ (xJ σ 400 0 v) := ⟨⟨fun _ _ _ _ _ => rfl, fun a b h1 => by
  show (if a = 400 ∧ b = 0 then v else σ.2 a b) = σ.2 a b
  rw [if_neg (fun e => h1 e.1)], rfl⟩, h⟩
theorem cnt_8 {x : Int32} (h0 : 0 ≤ x) (h : x < 8) : 0 ≤ x + 1 ∧ x + 1 ≤ 8 := by
  have a1 := t_le.mp h0
  have a2 := t_lt.mp h
  have e0 : (0 : Int32).toInt = 0 := rfl
  have e8 : (8 : Int32).toInt = 8 := rfl
  have e1 : (1 : Int32).toInt = 1 := rfl
  rw [e0] at a1
  rw [e8] at a2
  constructor
  · rw [t_le, t_add (by rw [e1]; omega) (by rw [e1]; omega), e1, e0]; omega
  · rw [t_le, t_add (by rw [e1]; omega) (by rw [e1]; omega), e1, e8]; omega
theorem KI_G {σ : xS} {n a s : Int32} (h : CTX σ) (h8 : σ.1 400 1 < 8) : KI σ (adG σ 400 n a s) := by
  have ht : tn (σ.1 400 1) < 8 := tn8 ⟨h.1.1, h8⟩
  unfold adG
  refine ⟨⟨fun a b h1 h2 h3 => ?_, fun a b h1 => rfl, ?_⟩, ?_, ?_⟩
  · rw [xI_n (by omega), xI_n (by omega), xI_n (by omega), xI_n (by omega)]
  · rw [xI_n (by omega), xI_n (by omega), xI_n (by omega), xI_n (by omega)]
  · rw [xI_s]
    exact cnt_8 h.1.1 h8
  · rw [xI_n (by omega), xI_n (by omega), xI_n (by omega), xI_n (by omega)]
    exact h.2
theorem KI_W {σ : xS} {k p d g a : Int32} (h : CTX σ) (h6 : σ.1 400 2 < 6) : KI σ (addW σ 400 (400 + 20 + tn (σ.1 400 2)) k p d g a) := by
  have ht : tn (σ.1 400 2) ≤ 6 := xwk6 h.2.2
  have ht2 : tn (σ.1 400 2) < 8 := by omega
  unfold addW
  refine ⟨⟨fun a b h1 h2 h3 => ?_, fun a b h1 => rfl, ?_⟩, ?_, ?_⟩
  · rw [xI_n (by omega), xI_n (by omega), xI_n (by omega), xI_n (by omega), xI_n (by omega), xI_n (by omega), xI_n (by omega), xI_n (by omega)]
  · rw [xI_n (by omega), xI_n (by omega), xI_n (by omega), xI_n (by omega), xI_n (by omega), xI_n (by omega), xI_n (by omega), xI_n (by omega)]
  · rw [xI_n (by omega), xI_n (by omega), xI_n (by omega), xI_n (by omega), xI_n (by omega), xI_n (by omega), xI_n (by omega), xI_n (by omega)]
    exact h.1
  · rw [xI_s]
    exact cnt_1 h.2.1 h6 (Or.inr rfl)
theorem KI_B {σ : xS} {n : Int32} (h : CTX σ) : KI σ (gbsX 400 n σ) := by
  have hw : tn (σ.1 400 2) ≤ 6 := xwk6 h.2.2
  have e : ∀ a b, a ≠ 400 ∨ (b ≠ 3 ∧ b ≠ 4) → ¬ (410 ≤ a ∧ a < 430) → (gbsX 400 n σ).1 a b = σ.1 a b := fun a b h1 h2 => by
    unfold gbsX
    rw [xI_n (by omega), xI_n (by omega)]
    exact gbX_f (by omega) hw
  refine ⟨⟨fun a b _ h2 h3 => e a b (Or.inl h2) h3, fun a b _ => ?_, e 2 2 (by omega) (by omega)⟩, CTX_e h (e 400 1 (by omega) (by omega)) (e 400 2 (by omega) (by omega))⟩
  show (gbX 400 (tn n) σ).2 a b = σ.2 a b
  rw [gbX_2]
theorem rg1_k {σ : xS} : kp2 σ (rg1 σ) := kp2_t rnS_k rsS_k
theorem KI_rg {σ : xS} (h : CTX σ) (h8 : σ.1 400 1 < 8) : KI σ (rgS σ) := by
  unfold rgS
  split
  · exact KI_2 h rnS_k
  · split
    · exact KI_2 h rg1_k
    · split
      · exact KI_2 h rg1_k
      · have k := KI_2 h (kp2_t rg1_k (gpS_k (i := gpN (rg1 σ))))
        refine KI_t k (KI_G k.2 ?_)
        rw [gpS_B, rg1_B]
        exact h8
theorem KI_rl {σ : xS} (h : CTX σ) : KI σ (rlS σ) := by
  unfold rlS
  split
  · exact KI_2 h rnS_k
  · split
    · exact KI_2 h (kp2_t rnS_k (kp2_i (by decide)))
    · have k := KI_2 h (rnS_k (a := 0) (b := 48))
      exact KI_t k (KI_J k.2)
theorem KI_ro {σ : xS} (h : CTX σ) : KI σ (roS σ) := by
  unfold roS
  split
  · exact KI_2 h rnS_k
  · have k := KI_2 h (rnS_k (a := 0) (b := 48))
    exact KI_t k (KI_J k.2)
theorem KI_rb {σ : xS} (h : CTX σ) : KI σ (rbS σ) := by
  unfold rbS
  split
  · exact KI_2 h rnS_k
  · have k := KI_2 h (rnS_k (a := 1) (b := 99))
    exact KI_t k (KI_B k.2)
theorem wk1_k {σ : xS} : kp2 σ (wk1 σ) := rnS_k
theorem wk2_k {σ : xS} : kp2 σ (wk2 σ) := kp2_t wk1_k rnS_k
theorem wk3_k {σ : xS} : kp2 σ (wk3 σ) := kp2_t wk2_k rnS_k
theorem wk4_k {σ : xS} : kp2 σ (wk4 σ) := kp2_t wk3_k rnS_k
theorem wk5_k {σ : xS} : kp2 σ (wk5 σ) := kp2_t wk4_k rnS_k
theorem KI_wk {σ : xS} (h : CTX σ) (h6 : σ.1 400 2 < 6) : KI σ (wkS σ) := by
  unfold wkS
  split
  · exact KI_2 h wk1_k
  · split
    · exact KI_2 h wk2_k
    · split
      · exact KI_2 h (kp2_t wk2_k (kp2_i (by decide)))
      · split
        · exact KI_2 h wk3_k
        · split
          · exact KI_2 h wk4_k
          · split
            · exact KI_2 h wk5_k
            · have k := KI_2 h wk5_k
              have e := (wk5_k (σ := σ)).1 400 2 (by decide)
              refine KI_t k ?_
              have q := KI_W (σ := wk5 σ) (k := rnV σ 0 6) (p := rnV (wk1 σ) 0 48) (d := rnV (wk2 σ) 0 3) (g := rnV (wk3 σ) 0 (σ.1 400 1 - 1)) (a := rnV (wk4 σ) 0 9) k.2 (by rw [e]; exact h6)
              rw [e] at q
              exact q
theorem KI_tl {σ S : xS} {V : Int32} (h : KI σ S) : KI σ (tlX V S).2 := by
  have k1 : ∀ v, KI σ (xI S 2 1 v) := fun v => KI_t h (KI_2 h.2 (kp2_i (by decide)))
  unfold tlX
  split
  · exact k1 0
  · split
    · exact KI_t (k1 0) (KI_2 (k1 0).2 rsS_k)
    · exact KI_t (k1 1) (KI_2 (k1 1).2 rsS_k)
theorem KI_it {σ : xS} {w : Int32} (h : CTX σ) (h0 : w = 0 → σ.1 400 1 < 8) (h3 : w = 3 → σ.1 400 2 < 6) : KI σ (itS σ w) := by
  unfold itS
  split
  · rename_i e; exact KI_rg h (h0 e)
  · split
    · exact KI_rl h
    · split
      · exact KI_ro h
      · split
        · rename_i e; exact KI_wk h (h3 e)
        · split
          · exact KI_rb h
          · exact KI_2 h kp2_r
theorem KI_ri {σ : xS} (h : CTX σ) : KI σ (riS σ) := by
  unfold riS riX
  split
  · exact KI_2 h (kp2_t rwS_k (kp2_i (by decide)))
  · rename_i hr
    have hr : ¬ ((rwV σ = 0 ∧ ¬ σ.1 400 1 < 8) ∨ (rwV σ = 3 ∧ ¬ σ.1 400 2 < 6)) := fun q => hr (decide_eq_true q)
    have k := KI_2 h (rwS_k (σ := σ))
    refine KI_tl (KI_t k (KI_it k.2 (fun e => ?_) (fun e => ?_)))
    · rw [rwS_B]
      exact Classical.not_not.mp (fun q => hr (Or.inl ⟨e, q⟩))
    · rw [rwS_B]
      exact Classical.not_not.mp (fun q => hr (Or.inr ⟨e, q⟩))
theorem bgS_o {σ : xS} {K i a b : Nat} (h2 : a ≠ 2) (h3 : a ≠ 3) : (bgS σ K i).1 a b = σ.1 a b := by
  induction i with
  | zero =>
    show (xI (xI (xI σ 2 0 0) 2 1 0) 2 2 (σ.1 K 1)).1 a b = _
    rw [xI_n (by omega), xI_n (by omega), xI_n (by omega)]
  | succ i ih =>
    show (xI (bgS σ K i) 3 i (bgT σ K i)).1 a b = _
    rw [xI_n (by omega)]
    exact ih
/-- a text's items, one behind another -/
def ssS (σ : xS) : Nat → xS
  | 0 => σ
  | i + 1 => riS (ssS σ i)
theorem ssS_s {σ : xS} {i : Nat} : riS (ssS σ i) = ssS σ (i + 1) := rfl
theorem ssS_0 {σ : xS} : ssS σ 0 = σ := rfl
def ssE (σ : xS) (i : Nat) : Bool := decide (riV (ssS σ i) = 0)
def ssN (σ : xS) : Nat := xfs (ssE σ) 159
def ssZ (σ : xS) (n : Nat) : xS := if n < 159 then ssS σ (n + 1) else ssS σ 159
def stZ (E : xS) (n : Nat) : Int32 × xS := if E.1 2 1 = 0 then noX (xI E 0 10 (E.1 2 0)) (-6) else (nI (n + 1), xI (cpT 100 400 E) 0 10 (-1))
def strsX (σ : xS) (s : Int32) : Int32 × xS := if 0 ≤ s ∧ s < 8 then (if wnr σ (10 + tn s) = 0 then stZ (ssZ (stB σ (10 + tn s)) (ssN (stB σ (10 + tn s)))) (ssN (stB σ (10 + tn s))) else noX σ (wnr σ (10 + tn s))) else noX σ (-1)
theorem KI_ss {σ : xS} (h : CTX σ) (i : Nat) : KI σ (ssS σ i) := by
  induction i with
  | zero => exact ⟨kpI_r, h⟩
  | succ i ih =>
    rw [← ssS_s]
    exact KI_t ih (KI_ri ih.2)
theorem KI_sz {σ : xS} (h : CTX σ) (n : Nat) : KI σ (ssZ σ n) := by
  unfold ssZ
  split
  · exact KI_ss h _
  · exact KI_ss h _
theorem stB_4 {σ : xS} {K b : Nat} (hb : b = 1 ∨ b = 2 ∨ b = 3 ∨ b = 4 ∨ b = 5) : (stB σ K).1 400 b = σ.1 100 b := by
  unfold stB
  rw [bgS_o (by decide) (by decide)]
  exact cpT_c hb
theorem b01 {V : Int32} (h : V = 0 ∨ V = 1) : (¬ V = 0) ↔ V = 1 := by rcases h with rfl | rfl <;> decide
def pX6_streets (as : List Value) (σ : xS) : Prop := ∃ (s : Int32), as = [.ref 0, .int s] ∧ ((0 ≤ σ.1 100 2) ∧ (σ.1 100 2 ≤ 6) ∧ (0 ≤ σ.1 100 1) ∧ (σ.1 100 1 ≤ 8))
def fX6_streets (as : List Value) (σ : xS) : Option Value × xS := match as with
  | [.ref 0, .int s] => (some (.int (strsX σ s).1), (strsX σ s).2)
  | _ => (none, σ)
theorem pX6_streets_e {s : Int32} {σ : xS} : pX6_streets [.ref 0, .int s] σ = ((0 ≤ σ.1 100 2) ∧ (σ.1 100 2 ≤ 6) ∧ (0 ≤ σ.1 100 1) ∧ (σ.1 100 1 ≤ 8)) := propext ⟨fun h => by obtain ⟨s, e, h⟩ := h; cases e; exact h, fun h => ⟨s, rfl, h⟩⟩
theorem fX6_streets_e {s : Int32} {σ : xS} : fX6_streets [.ref 0, .int s] σ = (some (.int (strsX σ s).1), (strsX σ s).2) := rfl
def calX6_streets : List (Nat × xCall) := [(62, (false, 2, pX6_shelfBy, fX6_shelfBy)), (74, (true, 1, pX6_whyNoRow, fX6_whyNoRow)), (66, (false, 2, pX6_refuse, fX6_refuse)), (184, (false, 3, pX2_begin, fX2_begin)), (188, (false, 1, pX2_readItem, fX2_readItem)), (200, (false, 2, pX4_becomeAs, fX4_becomeAs))]
theorem c_X6_streets_62 : xlk calX6_streets 62 = some (false, 2, pX6_shelfBy, fX6_shelfBy) := rfl
theorem c_X6_streets_74 : xlk calX6_streets 74 = some (true, 1, pX6_whyNoRow, fX6_whyNoRow) := rfl
theorem c_X6_streets_66 : xlk calX6_streets 66 = some (false, 2, pX6_refuse, fX6_refuse) := rfl
theorem c_X6_streets_184 : xlk calX6_streets 184 = some (false, 3, pX2_begin, fX2_begin) := rfl
theorem c_X6_streets_188 : xlk calX6_streets 188 = some (false, 1, pX2_readItem, fX2_readItem) := rfl
theorem c_X6_streets_200 : xlk calX6_streets 200 = some (false, 2, pX4_becomeAs, fX4_becomeAs) := rfl
set_option maxHeartbeats 4000000 in
set_option maxRecDepth 100000 in
theorem mX6_streets : xMet WX yX6_streets cX6_streets 5 (some .int) 8 pX6_streets fX6_streets := by
  refine xMet_of (fld := xlk fldX6) (cal := xlk calX6_streets) (ks := xlk []) (gs := xlk []) (ro := fun _ => none) 0 (by decide) WX_nd rfl fldX6_ok xKs_nil xGs_nil (Or.inr rfl) (xcal_cons (xCk_V mX6_shelfBy 6 (by decide) (by decide) (by decide) rfl (fun as σ h _ => rX6_shelfBy as σ h) w_X6_62 ⟨by decide, by decide, by decide +kernel⟩) (xcal_cons (xCk_S mX6_whyNoRow (by decide) (by decide) w_X6_74 ⟨by decide, by decide, by decide +kernel⟩) (xcal_cons (xCk_V mX6_refuse 6 (by decide) (by decide) (by decide) rfl (fun as σ h _ => rX6_refuse as σ h) w_X6_66 ⟨by decide, by decide, by decide +kernel⟩) (xcal_cons (xCk_V mX2_begin 2 (by decide) (by decide) (by decide) rfl (fun as σ h _ => rX2_begin as σ h) w_X6_184 ⟨by decide, by decide, by decide +kernel⟩) (xcal_cons (xCk_V mX2_readItem 2 (by decide) (by decide) (by decide) rfl (fun as σ h _ => rX2_readItem as σ h) w_X6_188 ⟨by decide, by decide, by decide +kernel⟩) (xcal_cons (xCk_V mX4_becomeAs 4 (by decide) (by decide) (by decide) rfl (fun as σ h _ => rX4_becomeAs as σ h) w_X6_200 ⟨by decide, by decide, by decide +kernel⟩) xcal_nil)))))) ?_ ?_
  · rintro av σ ⟨s, rfl, hpre⟩
    exact Nat.le_of_ble_eq_true rfl
  rintro av σ ⟨s, rfl, ⟨hp1, hp2, hp3, hp4⟩⟩ Rt hR
  have hR2 := hR2_g (Rt := Rt) (F := strsX σ s) (fun r s' => by rw [hR, fX6_streets_e])
  by_cases h : 0 ≤ s ∧ s < 8
  · have hSs : xSh (10 + tn s) := sh8 h
    by_cases hr : wnr σ (10 + tn s) = 0
    · have g0 : strsX σ s = stZ (ssZ (stB σ (10 + tn s)) (ssN (stB σ (10 + tn s)))) (ssN (stB σ (10 + tn s))) := by rw [strsX, if_pos h, if_pos hr]
      rw [g0] at hR2
      clear g0 hR
      have hC : CTX (stB σ (10 + tn s)) := by
        unfold CTX
        rw [stB_4 (by omega), stB_4 (by omega)]
        exact ⟨⟨hp3, hp4⟩, ⟨hp1, hp2⟩⟩
      generalize hτ : stB σ (10 + tn s) = τ at *
      generalize hK : 10 + tn s = K at *
      obtain ⟨N, hN⟩ : ∃ N, N = ssN τ := ⟨_, rfl⟩
      rw [← hN] at hR2
      have h71 : xGo WX 5 (xlk fldX6) (xlk calX6_streets) (xlk []) (xlk []) (fun _ => none) 0 cX6_streets Rt 64 [some (.ref 0), some (.int s), some (.ref K), some (.int 0), some (.int (nI (N + 1)))] [] (ssZ τ N) := by
        have k := (KI_sz hC N).2
        have e1 : (ssZ τ N).1 400 1 ≤ 8 := k.1.2
        have e2 : (ssZ τ N).1 400 2 ≤ 6 := k.2.2
        generalize ssZ τ N = E at *
        refine xgo0 40 ?_
        simp (config := {maxSteps := 4000000, implicitDefEqProofs := false}) only [xwp_2, xwp_0, xwp_1, xws_s, xdd_o, xld_0, xld_s, xs1_0, xs1_1, xs1_s, xs2_0, xs2_1, xs2_s, xlg_n, xlg_i, xlg_r, xlg_z, xlg_l, xf4_0, xf4_1, xf4_2, xf4_3, xgo_e, xcmp_eq, xcmp_ne, xcmp_lt, xcmp_ge, xcmp_gt, xcmp_le, xfg_0, xfg_1, xfg_2, xfg_3, xfg_4, xpop_0, xpop_s, xsw_n, xsw_c, xtb_n, xtb_c, xenp_n, xenp_i, xenp_r, xenp_z, xenp_l, xrep_0, xrep_s, Nat.reduceSub, true_and, and_true, cat_i, cat_r, Nat.reduceAdd, Nat.reduceLT, Nat.reduceLeDiff, Nat.reduceEqDiff, xnc, Int.reduceAdd, Int.reduceSub, Int.reduceNeg, Int.reduceLE, Int.reduceLT, Int.reduceToNat, ↓reduceIte, List.length_cons, List.length_nil, xlc0, xlc1, ite_10, i10, i01, i0_2, i0_3, i0_4, i0_6, i0_7, i0_8, i0_49, i0_10, or_true, true_or, or_false, false_or, not_false_eq_true, not_true_eq_false, xnt, xI_g, eq_self, xI_2, xJ_1, false_and, and_false, obT_t, obS_t, ob6_t, ob2_t, ob0_t, kT1_t, kT2_t, kT3_t, kT4_t, lT1, lT2, rT6, rT7, rT8, rT9, rT1i, rT2i, rS2, kSe_t, lSe, r0_0, r0_1, r0_2, r0_3, r0_4, r0_5, r0_6, r0_7, r0_8, r0_9, r1_i, r2_4, r2_5, r4_4, a1_t, a3_t, a5_t, a6_t, a7_t, a8_t, l1, l3, l5, l6, l7, l8, T1, T2, T3, T4, nI8, nI6, nI160, nI20, nI401, nI49, ob5_t, ob1_t, vp_tn, tn_def, lgc, dX6_streets_0, st_aload_n, dX6_streets_1, st_iload_n, dX6_streets_2, st_invokevirtual, dX6_streets_5, st_astore_n, dX6_streets_6, dX6_streets_7, st_invokestatic, dX6_streets_10, st_istore_n, dX6_streets_11, dX6_streets_12, st_ifnull, dX6_streets_15, dX6_streets_16, st_ifCond, dX6_streets_19, dX6_streets_20, dX6_streets_21, dX6_streets_24, st_ireturn, dX6_streets_25, dX6_streets_26, st_getfield, fl_X6_31, dX6_streets_29, dX6_streets_30, dX6_streets_31, fl_X6_18, dX6_streets_34, dX6_streets_37, st_iconst, dX6_streets_38, st_istore, dX6_streets_40, st_iload, dX6_streets_42, st_sipush, dX6_streets_45, st_if_icmp, dX6_streets_48, dX6_streets_49, dX6_streets_52, dX6_streets_55, dX6_streets_58, st_iinc, dX6_streets_61, st_goto, dX6_streets_64, dX6_streets_65, dX6_streets_68, fl_X6_191, dX6_streets_71, dX6_streets_74, dX6_streets_75, dX6_streets_76, dX6_streets_79, fl_X6_194, dX6_streets_82, st_putfield, fl_X6_57, dX6_streets_85, dX6_streets_86, st_bipush, dX6_streets_88, dX6_streets_91, dX6_streets_92, dX6_streets_93, dX6_streets_96, dX6_streets_97, dX6_streets_100, fl_X6_197, dX6_streets_103, dX6_streets_106, dX6_streets_107, dX6_streets_108, dX6_streets_111, dX6_streets_113, c_X6_streets_62, pX6_shelfBy_e, fX6_shelfBy_e, Option.toList_some, Option.toList_none, List.cons_append, List.nil_append, c_X6_streets_74, pwnr_r, fwnr_r, c_X6_streets_66, pX6_refuse_e, fX6_refuse_e, c_X6_streets_184, pX2_begin_e, fX2_begin_e, c_X6_streets_188, pX2_readItem_e, fX2_readItem_e, c_X6_streets_200, pX4_becomeAs_e, fX4_becomeAs_e, ofJ_1, ofI_160, ofI_m6, ofI_m1, ne41, ne14, hp1, hp2, hp3, hp4, e1, e2]
        simp only [hR2, stZ, noX]
        clear hR2
        grind
      refine xto 40 (fun L st t => L = [some (.ref 0), some (.int s), some (.ref K), some (.int 0), some (.int (nI (0 + 1)))] ∧ st = [] ∧ t = ssS τ 0) 60 ?_ ?_
      · rintro L st t ⟨eL, est, et⟩
        rw [eL, est, et]
        clear hR2
        refine xfor2 40 64 159 40 (fun L st t => L = [some (.ref 0), some (.int s), some (.ref K), some (.int 0), some (.int (nI (N + 1)))] ∧ st = [] ∧ t = ssZ τ N) (by rintro L st t ⟨rfl, rfl, rfl⟩; exact h71) (fun i => [some (.ref 0), some (.int s), some (.ref K), some (.int 0), some (.int (nI (i + 1)))]) (fun i => ssS τ i) (fun i => ∀ j, j < i → ssE τ j = false) (fun i hi hH => ?_) 0 (Nat.zero_le _) (fun j hj => by omega)
        clear h71
        have hc : (160 : Int32) ≤ nI (i + 1) ↔ 160 ≤ i + 1 := nI_leI (a := 160) (by omega) (by omega)
        have e1 : nI (i + 1) + 1 = nI (i + 1 + 1) := nI_1 (i + 1)
        have k := KI_ss hC i
        have k1 := k.2.1.1
        have k2 := k.2.2.1
        have k3 := k.2.2.2
        have fin : 160 ≤ i + 1 → N = i ∧ ssZ τ N = ssS τ i := fun h => by
          have hi9 : i = 159 := by omega
          have e9 : ssN τ = i := by
            rw [hi9]
            exact xfs_no (fun j hj => hH j (by omega))
          refine ⟨hN.trans e9, ?_⟩
          rw [hN, e9, ssZ, if_neg (by omega), hi9]
        have stop : ¬ 160 ≤ i + 1 → riV (ssS τ i) = 0 → N = i ∧ ssZ τ N = ssS τ (i + 1) := fun h1 h2 => by
          have e9 : ssN τ = i := xfs_at (by omega) (decide_eq_true h2) hH
          refine ⟨hN.trans e9, ?_⟩
          rw [hN, e9, ssZ, if_pos (by omega)]
        have cont : ¬ riV (ssS τ i) = 0 → (∀ j, j < i + 1 → ssE τ j = false) := fun h2 => xall_s hH (decide_eq_false h2)
        simp -implicitDefEqProofs only [xwp_2, xwp_0, xwp_1, xws_s, xdd_o, xld_0, xld_s, xs1_0, xs1_1, xs1_s, xs2_0, xs2_1, xs2_s, xlg_n, xlg_i, xlg_r, xlg_z, xlg_l, xf4_0, xf4_1, xf4_2, xf4_3, xgo_e, xcmp_eq, xcmp_ne, xcmp_lt, xcmp_ge, xcmp_gt, xcmp_le, xfg_0, xfg_1, xfg_2, xfg_3, xfg_4, xpop_0, xpop_s, xsw_n, xsw_c, xtb_n, xtb_c, xenp_n, xenp_i, xenp_r, xenp_z, xenp_l, xrep_0, xrep_s, Nat.reduceSub, true_and, and_true, cat_i, cat_r, Nat.reduceAdd, Nat.reduceLT, Nat.reduceLeDiff, Nat.reduceEqDiff, xnc, Int.reduceAdd, Int.reduceSub, Int.reduceNeg, Int.reduceLE, Int.reduceLT, Int.reduceToNat, ↓reduceIte, List.length_cons, List.length_nil, xlc0, xlc1, ite_10, i10, i01, i0_2, i0_3, i0_4, i0_6, i0_7, i0_8, i0_49, i0_10, or_true, true_or, or_false, false_or, not_false_eq_true, not_true_eq_false, xnt, xI_g, eq_self, xI_2, xJ_1, false_and, and_false, obT_t, obS_t, ob6_t, ob2_t, ob0_t, kT1_t, kT2_t, kT3_t, kT4_t, lT1, lT2, rT6, rT7, rT8, rT9, rT1i, rT2i, rS2, kSe_t, lSe, r0_0, r0_1, r0_2, r0_3, r0_4, r0_5, r0_6, r0_7, r0_8, r0_9, r1_i, r2_4, r2_5, r4_4, a1_t, a3_t, a5_t, a6_t, a7_t, a8_t, l1, l3, l5, l6, l7, l8, T1, T2, T3, T4, nI8, nI6, nI160, nI20, nI401, nI49, ob5_t, ob1_t, vp_tn, tn_def, lgc, dX6_streets_0, st_aload_n, dX6_streets_1, st_iload_n, dX6_streets_2, st_invokevirtual, dX6_streets_5, st_astore_n, dX6_streets_6, dX6_streets_7, st_invokestatic, dX6_streets_10, st_istore_n, dX6_streets_11, dX6_streets_12, st_ifnull, dX6_streets_15, dX6_streets_16, st_ifCond, dX6_streets_19, dX6_streets_20, dX6_streets_21, dX6_streets_24, st_ireturn, dX6_streets_25, dX6_streets_26, st_getfield, fl_X6_31, dX6_streets_29, dX6_streets_30, dX6_streets_31, fl_X6_18, dX6_streets_34, dX6_streets_37, st_iconst, dX6_streets_38, st_istore, dX6_streets_40, st_iload, dX6_streets_42, st_sipush, dX6_streets_45, st_if_icmp, dX6_streets_48, dX6_streets_49, dX6_streets_52, dX6_streets_55, dX6_streets_58, st_iinc, dX6_streets_61, st_goto, dX6_streets_64, dX6_streets_65, dX6_streets_68, fl_X6_191, dX6_streets_71, dX6_streets_74, dX6_streets_75, dX6_streets_76, dX6_streets_79, fl_X6_194, dX6_streets_82, st_putfield, fl_X6_57, dX6_streets_85, dX6_streets_86, st_bipush, dX6_streets_88, dX6_streets_91, dX6_streets_92, dX6_streets_93, dX6_streets_96, dX6_streets_97, dX6_streets_100, fl_X6_197, dX6_streets_103, dX6_streets_106, dX6_streets_107, dX6_streets_108, dX6_streets_111, dX6_streets_113, c_X6_streets_62, pX6_shelfBy_e, fX6_shelfBy_e, Option.toList_some, Option.toList_none, List.cons_append, List.nil_append, c_X6_streets_74, pwnr_r, fwnr_r, c_X6_streets_66, pX6_refuse_e, fX6_refuse_e, c_X6_streets_184, pX2_begin_e, fX2_begin_e, c_X6_streets_188, pX2_readItem_e, fX2_readItem_e, c_X6_streets_200, pX4_becomeAs_e, fX4_becomeAs_e, ofJ_1, ofI_160, ofI_m6, ofI_m1, ne41, ne14, hp1, hp2, hp3, hp4, hc, e1, k1, k2, k3, ssS_s]
        clear hc e1 k k1 k2 k3 hH hN hC
        generalize riV (ssS τ i) = rv at *
        generalize ssZ τ N = EZ at *
        generalize ssS τ (i + 1) = E1 at *
        generalize ssS τ i = E0 at *
        refine ⟨fun h => ?_, fun h => ⟨fun h2 => ?_, fun h2 => ?_⟩⟩
        · obtain ⟨q1, q2⟩ := fin (by omega)
          rw [q1, q2]
          try exact ⟨rfl, rfl⟩
        · obtain ⟨q1, q2⟩ := stop (by omega) h2
          rw [q1, q2]
          try exact ⟨rfl, rfl⟩
        · have q := cont h2
          have q3 : i < 159 := by omega
          first | exact ⟨q3, q, rfl⟩ | exact ⟨q3, q⟩ | exact ⟨q3, q, rfl, rfl⟩
      · simp -implicitDefEqProofs only [xwp_2, xwp_0, xwp_1, xws_s, xdd_o, xld_0, xld_s, xs1_0, xs1_1, xs1_s, xs2_0, xs2_1, xs2_s, xlg_n, xlg_i, xlg_r, xlg_z, xlg_l, xf4_0, xf4_1, xf4_2, xf4_3, xgo_e, xcmp_eq, xcmp_ne, xcmp_lt, xcmp_ge, xcmp_gt, xcmp_le, xfg_0, xfg_1, xfg_2, xfg_3, xfg_4, xpop_0, xpop_s, xsw_n, xsw_c, xtb_n, xtb_c, xenp_n, xenp_i, xenp_r, xenp_z, xenp_l, xrep_0, xrep_s, Nat.reduceSub, true_and, and_true, cat_i, cat_r, Nat.reduceAdd, Nat.reduceLT, Nat.reduceLeDiff, Nat.reduceEqDiff, xnc, Int.reduceAdd, Int.reduceSub, Int.reduceNeg, Int.reduceLE, Int.reduceLT, Int.reduceToNat, ↓reduceIte, List.length_cons, List.length_nil, xlc0, xlc1, ite_10, i10, i01, i0_2, i0_3, i0_4, i0_6, i0_7, i0_8, i0_49, i0_10, or_true, true_or, or_false, false_or, not_false_eq_true, not_true_eq_false, xnt, xI_g, eq_self, xI_2, xJ_1, false_and, and_false, obT_t, obS_t, ob6_t, ob2_t, ob0_t, kT1_t, kT2_t, kT3_t, kT4_t, lT1, lT2, rT6, rT7, rT8, rT9, rT1i, rT2i, rS2, kSe_t, lSe, r0_0, r0_1, r0_2, r0_3, r0_4, r0_5, r0_6, r0_7, r0_8, r0_9, r1_i, r2_4, r2_5, r4_4, a1_t, a3_t, a5_t, a6_t, a7_t, a8_t, l1, l3, l5, l6, l7, l8, T1, T2, T3, T4, nI8, nI6, nI160, nI20, nI401, nI49, ob5_t, ob1_t, vp_tn, tn_def, lgc, dX6_streets_0, st_aload_n, dX6_streets_1, st_iload_n, dX6_streets_2, st_invokevirtual, dX6_streets_5, st_astore_n, dX6_streets_6, dX6_streets_7, st_invokestatic, dX6_streets_10, st_istore_n, dX6_streets_11, dX6_streets_12, st_ifnull, dX6_streets_15, dX6_streets_16, st_ifCond, dX6_streets_19, dX6_streets_20, dX6_streets_21, dX6_streets_24, st_ireturn, dX6_streets_25, dX6_streets_26, st_getfield, fl_X6_31, dX6_streets_29, dX6_streets_30, dX6_streets_31, fl_X6_18, dX6_streets_34, dX6_streets_37, st_iconst, dX6_streets_38, st_istore, dX6_streets_40, st_iload, dX6_streets_42, st_sipush, dX6_streets_45, st_if_icmp, dX6_streets_48, dX6_streets_49, dX6_streets_52, dX6_streets_55, dX6_streets_58, st_iinc, dX6_streets_61, st_goto, dX6_streets_64, dX6_streets_65, dX6_streets_68, fl_X6_191, dX6_streets_71, dX6_streets_74, dX6_streets_75, dX6_streets_76, dX6_streets_79, fl_X6_194, dX6_streets_82, st_putfield, fl_X6_57, dX6_streets_85, dX6_streets_86, st_bipush, dX6_streets_88, dX6_streets_91, dX6_streets_92, dX6_streets_93, dX6_streets_96, dX6_streets_97, dX6_streets_100, fl_X6_197, dX6_streets_103, dX6_streets_106, dX6_streets_107, dX6_streets_108, dX6_streets_111, dX6_streets_113, c_X6_streets_62, pX6_shelfBy_e, fX6_shelfBy_e, Option.toList_some, Option.toList_none, List.cons_append, List.nil_append, c_X6_streets_74, pwnr_r, fwnr_r, c_X6_streets_66, pX6_refuse_e, fX6_refuse_e, c_X6_streets_184, pX2_begin_e, fX2_begin_e, c_X6_streets_188, pX2_readItem_e, fX2_readItem_e, c_X6_streets_200, pX4_becomeAs_e, fX4_becomeAs_e, ofJ_1, ofI_160, ofI_m6, ofI_m1, ne41, ne14, hp1, hp2, hp3, hp4, h, hSs, hK, hr, hτ]
        simp [ssS_0, nI]
    · refine xto 25 (fun L st t => False) 60 (fun L st t q => q.elim) ?_
      simp -implicitDefEqProofs only [xwp_2, xwp_0, xwp_1, xws_s, xdd_o, xld_0, xld_s, xs1_0, xs1_1, xs1_s, xs2_0, xs2_1, xs2_s, xlg_n, xlg_i, xlg_r, xlg_z, xlg_l, xf4_0, xf4_1, xf4_2, xf4_3, xgo_e, xcmp_eq, xcmp_ne, xcmp_lt, xcmp_ge, xcmp_gt, xcmp_le, xfg_0, xfg_1, xfg_2, xfg_3, xfg_4, xpop_0, xpop_s, xsw_n, xsw_c, xtb_n, xtb_c, xenp_n, xenp_i, xenp_r, xenp_z, xenp_l, xrep_0, xrep_s, Nat.reduceSub, true_and, and_true, cat_i, cat_r, Nat.reduceAdd, Nat.reduceLT, Nat.reduceLeDiff, Nat.reduceEqDiff, xnc, Int.reduceAdd, Int.reduceSub, Int.reduceNeg, Int.reduceLE, Int.reduceLT, Int.reduceToNat, ↓reduceIte, List.length_cons, List.length_nil, xlc0, xlc1, ite_10, i10, i01, i0_2, i0_3, i0_4, i0_6, i0_7, i0_8, i0_49, i0_10, or_true, true_or, or_false, false_or, not_false_eq_true, not_true_eq_false, xnt, xI_g, eq_self, xI_2, xJ_1, false_and, and_false, obT_t, obS_t, ob6_t, ob2_t, ob0_t, kT1_t, kT2_t, kT3_t, kT4_t, lT1, lT2, rT6, rT7, rT8, rT9, rT1i, rT2i, rS2, kSe_t, lSe, r0_0, r0_1, r0_2, r0_3, r0_4, r0_5, r0_6, r0_7, r0_8, r0_9, r1_i, r2_4, r2_5, r4_4, a1_t, a3_t, a5_t, a6_t, a7_t, a8_t, l1, l3, l5, l6, l7, l8, T1, T2, T3, T4, nI8, nI6, nI160, nI20, nI401, nI49, ob5_t, ob1_t, vp_tn, tn_def, lgc, dX6_streets_0, st_aload_n, dX6_streets_1, st_iload_n, dX6_streets_2, st_invokevirtual, dX6_streets_5, st_astore_n, dX6_streets_6, dX6_streets_7, st_invokestatic, dX6_streets_10, st_istore_n, dX6_streets_11, dX6_streets_12, st_ifnull, dX6_streets_15, dX6_streets_16, st_ifCond, dX6_streets_19, dX6_streets_20, dX6_streets_21, dX6_streets_24, st_ireturn, dX6_streets_25, dX6_streets_26, st_getfield, fl_X6_31, dX6_streets_29, dX6_streets_30, dX6_streets_31, fl_X6_18, dX6_streets_34, dX6_streets_37, st_iconst, dX6_streets_38, st_istore, dX6_streets_40, st_iload, dX6_streets_42, st_sipush, dX6_streets_45, st_if_icmp, dX6_streets_48, dX6_streets_49, dX6_streets_52, dX6_streets_55, dX6_streets_58, st_iinc, dX6_streets_61, st_goto, dX6_streets_64, dX6_streets_65, dX6_streets_68, fl_X6_191, dX6_streets_71, dX6_streets_74, dX6_streets_75, dX6_streets_76, dX6_streets_79, fl_X6_194, dX6_streets_82, st_putfield, fl_X6_57, dX6_streets_85, dX6_streets_86, st_bipush, dX6_streets_88, dX6_streets_91, dX6_streets_92, dX6_streets_93, dX6_streets_96, dX6_streets_97, dX6_streets_100, fl_X6_197, dX6_streets_103, dX6_streets_106, dX6_streets_107, dX6_streets_108, dX6_streets_111, dX6_streets_113, c_X6_streets_62, pX6_shelfBy_e, fX6_shelfBy_e, Option.toList_some, Option.toList_none, List.cons_append, List.nil_append, c_X6_streets_74, pwnr_r, fwnr_r, c_X6_streets_66, pX6_refuse_e, fX6_refuse_e, c_X6_streets_184, pX2_begin_e, fX2_begin_e, c_X6_streets_188, pX2_readItem_e, fX2_readItem_e, c_X6_streets_200, pX4_becomeAs_e, fX4_becomeAs_e, ofJ_1, ofI_160, ofI_m6, ofI_m1, ne41, ne14, hp1, hp2, hp3, hp4, h, hSs, hr]
      clear hR
      simp only [hR2, strsX, noX]
      clear hR2
      grind (splits := 40)
  · refine xto 25 (fun L st t => False) 60 (fun L st t q => q.elim) ?_
    simp -implicitDefEqProofs only [xwp_2, xwp_0, xwp_1, xws_s, xdd_o, xld_0, xld_s, xs1_0, xs1_1, xs1_s, xs2_0, xs2_1, xs2_s, xlg_n, xlg_i, xlg_r, xlg_z, xlg_l, xf4_0, xf4_1, xf4_2, xf4_3, xgo_e, xcmp_eq, xcmp_ne, xcmp_lt, xcmp_ge, xcmp_gt, xcmp_le, xfg_0, xfg_1, xfg_2, xfg_3, xfg_4, xpop_0, xpop_s, xsw_n, xsw_c, xtb_n, xtb_c, xenp_n, xenp_i, xenp_r, xenp_z, xenp_l, xrep_0, xrep_s, Nat.reduceSub, true_and, and_true, cat_i, cat_r, Nat.reduceAdd, Nat.reduceLT, Nat.reduceLeDiff, Nat.reduceEqDiff, xnc, Int.reduceAdd, Int.reduceSub, Int.reduceNeg, Int.reduceLE, Int.reduceLT, Int.reduceToNat, ↓reduceIte, List.length_cons, List.length_nil, xlc0, xlc1, ite_10, i10, i01, i0_2, i0_3, i0_4, i0_6, i0_7, i0_8, i0_49, i0_10, or_true, true_or, or_false, false_or, not_false_eq_true, not_true_eq_false, xnt, xI_g, eq_self, xI_2, xJ_1, false_and, and_false, obT_t, obS_t, ob6_t, ob2_t, ob0_t, kT1_t, kT2_t, kT3_t, kT4_t, lT1, lT2, rT6, rT7, rT8, rT9, rT1i, rT2i, rS2, kSe_t, lSe, r0_0, r0_1, r0_2, r0_3, r0_4, r0_5, r0_6, r0_7, r0_8, r0_9, r1_i, r2_4, r2_5, r4_4, a1_t, a3_t, a5_t, a6_t, a7_t, a8_t, l1, l3, l5, l6, l7, l8, T1, T2, T3, T4, nI8, nI6, nI160, nI20, nI401, nI49, ob5_t, ob1_t, vp_tn, tn_def, lgc, dX6_streets_0, st_aload_n, dX6_streets_1, st_iload_n, dX6_streets_2, st_invokevirtual, dX6_streets_5, st_astore_n, dX6_streets_6, dX6_streets_7, st_invokestatic, dX6_streets_10, st_istore_n, dX6_streets_11, dX6_streets_12, st_ifnull, dX6_streets_15, dX6_streets_16, st_ifCond, dX6_streets_19, dX6_streets_20, dX6_streets_21, dX6_streets_24, st_ireturn, dX6_streets_25, dX6_streets_26, st_getfield, fl_X6_31, dX6_streets_29, dX6_streets_30, dX6_streets_31, fl_X6_18, dX6_streets_34, dX6_streets_37, st_iconst, dX6_streets_38, st_istore, dX6_streets_40, st_iload, dX6_streets_42, st_sipush, dX6_streets_45, st_if_icmp, dX6_streets_48, dX6_streets_49, dX6_streets_52, dX6_streets_55, dX6_streets_58, st_iinc, dX6_streets_61, st_goto, dX6_streets_64, dX6_streets_65, dX6_streets_68, fl_X6_191, dX6_streets_71, dX6_streets_74, dX6_streets_75, dX6_streets_76, dX6_streets_79, fl_X6_194, dX6_streets_82, st_putfield, fl_X6_57, dX6_streets_85, dX6_streets_86, st_bipush, dX6_streets_88, dX6_streets_91, dX6_streets_92, dX6_streets_93, dX6_streets_96, dX6_streets_97, dX6_streets_100, fl_X6_197, dX6_streets_103, dX6_streets_106, dX6_streets_107, dX6_streets_108, dX6_streets_111, dX6_streets_113, c_X6_streets_62, pX6_shelfBy_e, fX6_shelfBy_e, Option.toList_some, Option.toList_none, List.cons_append, List.nil_append, c_X6_streets_74, pwnr_r, fwnr_r, c_X6_streets_66, pX6_refuse_e, fX6_refuse_e, c_X6_streets_184, pX2_begin_e, fX2_begin_e, c_X6_streets_188, pX2_readItem_e, fX2_readItem_e, c_X6_streets_200, pX4_becomeAs_e, fX4_becomeAs_e, ofJ_1, ofI_160, ofI_m6, ofI_m1, ne41, ne14, hp1, hp2, hp3, hp4, h, im1_0, pwnr_n, fwnr_n]
    clear hR
    simp only [hR2, strsX, noX]
    clear hR2
    grind (splits := 40)
theorem rX6_streets : ∀ as σ, pX6_streets as σ → ∃ K as', as = .ref K :: as' ∧ xob WX K 6 := by
  rintro as σ ⟨s, rfl, hpre⟩
  exact ⟨_, _, rfl, by first | exact hpre | exact hpre.1 | exact obT hpre | exact obT hpre.1 | exact obS hpre | exact obS hpre.1 | exact obM | exact ob6 | exact ob2 | exact ob0⟩
