theorem sit_s {σ : xS} {s n : Int32} (h : sitM σ s n = 0) : (0 ≤ s ∧ s < 8) ∧ n ≤ 10 := by
  unfold sitM at h
  split at h
  · rename_i h1; exact absurd h h1
  · rename_i h1
    split at h
    · exact absurd h (by decide)
    · rename_i h2
      exact ⟨(wt_s (br_s (Classical.not_not.mp h1))).1, Int32.not_lt.mp h2⟩
theorem nbP_si {σ : xS} {s n : Int32} : nbP (sitM σ s n) = True := by
  have e0 : nbP 0 = True := eq_true ⟨by decide, by decide⟩
  unfold sitM
  split
  · exact nbP_br
  · split
    · exact nbP_6
    · split
      · exact nbP_6
      · exact e0
def fitM (σ : xS) (s n : Int32) : Int32 × xS := if ¬ sitM σ s n = 0 then noM σ (sitM σ s n) else (fitsV σ s n, fitsT σ)
/-- another gait for one of them, and what the sights say then -/
def bnU (τ : xS) (x d0 : Int32) (g : Nat) : xS := xI (xI τ 15 (tn x) (nI g)) 16 (tn x) (xrem d0 (τ.1 8 g))
def bnS (F : xS → xS) (σ : xS) (x d0 : Int32) : Nat → xS
  | 0 => σ
  | g + 1 => F (bnU (bnS F σ x d0 g) x d0 g)
def bnA (F : xS → xS) (V : xS → Int32) (σ : xS) (n x d0 : Int32) : Nat → Int32
  | 0 => 0
  | g + 1 => if V (bnU (bnS F σ x d0 g) x d0 g) = n then bnA F V σ n x d0 g ||| xshl 1 (nI g) else bnA F V σ n x d0 g
theorem bnU_f {τ : xS} {x d0 : Int32} {g : Nat} : xI (xI τ 15 (tn x) (nI g)) 16 (tn x) (xrem d0 (τ.1 8 g)) = bnU τ x d0 g := rfl
theorem bnS_0 {F : xS → xS} {σ : xS} {x d0 : Int32} : bnS F σ x d0 0 = σ := rfl
theorem bnS_s {F : xS → xS} {σ : xS} {x d0 : Int32} {g : Nat} : F (bnU (bnS F σ x d0 g) x d0 g) = bnS F σ x d0 (g + 1) := rfl
theorem bnA_0 {F : xS → xS} {V : xS → Int32} {σ : xS} {n x d0 : Int32} : bnA F V σ n x d0 0 = 0 := rfl
theorem bnA_s {F : xS → xS} {V : xS → Int32} {σ : xS} {n x d0 : Int32} {g : Nat} : bnA F V σ n x d0 (g + 1) = if V (bnU (bnS F σ x d0 g) x d0 g) = n then bnA F V σ n x d0 g ||| xshl 1 (nI g) else bnA F V σ n x d0 g := rfl
theorem bnU_o {τ : xS} {x d0 : Int32} {g a c : Nat} (h : a ≠ 15 ∧ a ≠ 16) : (bnU τ x d0 g).1 a c = τ.1 a c := by
  unfold bnU
  rw [xI_n (by omega), xI_n (by omega)]
theorem fitsT_o {σ : xS} {a c : Nat} (h : a < 13) : (fitsT σ).1 a c = σ.1 a c := by
  unfold fitsT
  rw [baM_o (by omega), gbM_o (by omega), bgM_o (by omega)]
theorem bnS_o {F : xS → xS} (hF : ∀ τ a c, a < 13 → (F τ).1 a c = τ.1 a c) {σ : xS} {x d0 : Int32} {a c : Nat} (h : a < 13) : ∀ {g : Nat}, (bnS F σ x d0 g).1 a c = σ.1 a c
  | 0 => rfl
  | g + 1 => by rw [← bnS_s, hF _ _ _ h, bnU_o (by omega)]; exact bnS_o hF h
def begM (σ : xS) (s n x : Int32) : Int32 × xS := if (0 ≤ s ∧ s < 8) ∧ ¬ (0 ≤ x ∧ x < σ.1 0 1) then noM σ (-1) else if ¬ sitM σ s n = 0 then noM σ (sitM σ s n) else (bnA fitsT (fun τ => fitsV τ s n) σ n x (σ.1 16 (tn x)) (tn (σ.1 0 0)), xI (xI (bnS fitsT σ x (σ.1 16 (tn x)) (tn (σ.1 0 0))) 15 (tn x) (σ.1 15 (tn x))) 16 (tn x) (σ.1 16 (tn x)))
def pX7_fit (as : List Value) (σ : xS) : Prop := ∃ (s : Int32) (n : Int32), as = [.ref 0, .int s, .int n] ∧ ((0 ≤ σ.1 0 1) ∧ (σ.1 0 1 ≤ 6) ∧ (BOK (bgM σ)))
def fX7_fit (as : List Value) (σ : xS) : Option Value × xS := match as with
  | [.ref 0, .int s, .int n] => (some (.int (fitM σ s n).1), (fitM σ s n).2)
  | _ => (none, σ)
theorem pX7_fit_e {s : Int32} {n : Int32} {σ : xS} : pX7_fit [.ref 0, .int s, .int n] σ = ((0 ≤ σ.1 0 1) ∧ (σ.1 0 1 ≤ 6) ∧ (BOK (bgM σ))) := propext ⟨fun h => by obtain ⟨s, n, e, h⟩ := h; cases e; exact h, fun h => ⟨s, n, rfl, h⟩⟩
theorem fX7_fit_e {s : Int32} {n : Int32} {σ : xS} : fX7_fit [.ref 0, .int s, .int n] σ = (some (.int (fitM σ s n).1), (fitM σ s n).2) := rfl
def calX7_fit : List (Nat × xCall) := [(320, (false, 3, pX7_sights, fX7_sights)), (136, (false, 2, pX7_no, fX7_no)), (323, (false, 3, pX7_fits, fX7_fits))]
theorem c_X7_fit_320 : xlk calX7_fit 320 = some (false, 3, pX7_sights, fX7_sights) := rfl
theorem c_X7_fit_136 : xlk calX7_fit 136 = some (false, 2, pX7_no, fX7_no) := rfl
theorem c_X7_fit_323 : xlk calX7_fit 323 = some (false, 3, pX7_fits, fX7_fits) := rfl
set_option maxHeartbeats 1000000 in
set_option maxRecDepth 100000 in
theorem mX7_fit : xMet WM yX7_fit cX7_fit 4 (some .int) 5 pX7_fit fX7_fit := by
  refine xMet_of (fld := xlk fldX7) (cal := xlk calX7_fit) (ks := xlk []) (gs := xlk []) (ro := fun _ => none) 0 (by decide) WM_nd rfl fldX7_ok xKs_nil xGs_nil (Or.inr rfl) (xcal_cons (xCk_V mX7_sights 7 (by decide) (by decide) (by decide) rfl (fun as σ h _ => rX7_sights as σ h) w_X7_320 ⟨by decide, by decide, by decide +kernel⟩) (xcal_cons (xCk_V mX7_no 7 (by decide) (by decide) (by decide) rfl (fun as σ h _ => rX7_no as σ h) w_X7_136 ⟨by decide, by decide, by decide +kernel⟩) (xcal_cons (xCk_V mX7_fits 7 (by decide) (by decide) (by decide) rfl (fun as σ h _ => rX7_fits as σ h) w_X7_323 ⟨by decide, by decide, by decide +kernel⟩) xcal_nil))) ?_ ?_
  · rintro av σ ⟨s, n, rfl, hpre⟩
    exact Nat.le_of_ble_eq_true rfl
  rintro av σ ⟨s, n, rfl, ⟨hp1, hp2, hp3⟩⟩ Rt hR
  have hR2 := hR2_g (Rt := Rt) (F := fitM σ s n) (fun r s' => by rw [hR, fX7_fit_e])
  have hnb : nbP (sitM σ s n) = True := nbP_si
  have hss : sitM σ s n = 0 → (0 ≤ s ∧ s < 8) ∧ n ≤ 10 := sit_s
  refine xgo0 18 ?_
  simp -implicitDefEqProofs only [xwp_2, xwp_0, xwp_1, xws_s, xdd_o, xld_0, xld_s, xs1_0, xs1_1, xs1_s, xs2_0, xs2_1, xs2_s, xlg_n, xlg_i, xlg_r, xlg_z, xlg_l, xf4_0, xf4_1, xf4_2, xf4_3, xgo_e, xcmp_eq, xcmp_ne, xcmp_lt, xcmp_ge, xcmp_gt, xcmp_le, xfg_0, xfg_1, xfg_2, xfg_3, xfg_4, xpop_0, xpop_s, xsw_n, xsw_c, xtb_n, xtb_c, xenp_n, xenp_i, xenp_r, xenp_z, xenp_l, xrep_0, xrep_s, Nat.reduceSub, true_and, and_true, cat_i, cat_r, Nat.reduceAdd, Nat.reduceLT, Nat.reduceLeDiff, Nat.reduceEqDiff, xnc, Int.reduceAdd, Int.reduceSub, Int.reduceNeg, Int.reduceLE, Int.reduceLT, Int.reduceToNat, ↓reduceIte, List.length_cons, List.length_nil, xlc0, xlc1, ite_10, i10, i01, i0_2, i0_3, i0_4, i0_6, i0_7, i0_8, i0_49, i0_10, or_true, true_or, or_false, false_or, not_false_eq_true, not_true_eq_false, xnt, xI_g, eq_self, xI_2, xJ_1, false_and, and_false, obM_t, rMi, vp_tn, tn_def, lgc, nI8, nI6, nI160, nI20, nI401, nI49, aM_6, aM_7, aM_8, aM_9, aM_10, aM_11, aM_12, aM_13, aM_14, aM_15, aM_16, aM_17, aM_18, aM_19, aM_20, aM_21, aM_22, aM_23, aM_24, aM_25, aM_26, aM_27, aM_28, aM_29, aM_30, aM_31, aM_38, aM_39, aM_40, aM_41, aM_42, aM_43, aM_44, aM_45, aM_46, aM_47, lM_6, lM_7, lM_8, lM_9, lM_10, lM_11, lM_12, lM_13, lM_14, lM_15, lM_16, lM_17, lM_18, lM_19, lM_20, lM_21, lM_22, lM_23, lM_24, lM_25, lM_26, lM_27, lM_28, lM_29, lM_30, lM_31, lM_38, lM_39, lM_40, lM_41, lM_42, lM_43, lM_44, lM_45, lM_46, lM_47, dX7_fit_0, st_aload_n, dX7_fit_1, st_iload_n, dX7_fit_2, dX7_fit_3, st_invokevirtual, dX7_fit_6, st_istore_n, dX7_fit_7, dX7_fit_8, st_ifCond, dX7_fit_11, dX7_fit_12, dX7_fit_13, dX7_fit_16, st_goto, dX7_fit_19, dX7_fit_20, dX7_fit_21, dX7_fit_22, dX7_fit_25, st_ireturn, c_X7_fit_320, pX7_sights_e, fX7_sights_e, Option.toList_some, Option.toList_none, List.cons_append, List.nil_append, c_X7_fit_136, pX7_no_e, fX7_no_e, c_X7_fit_323, pX7_fits_e, fX7_fits_e, hp1, hp2, hp3, hnb]
  clear hR
  simp only [hR2, fitM, noM]
  clear hR2 hnb hp3
  generalize sitM σ s n = u at *
  generalize fitsV σ s n = v at *
  generalize fitsT σ = Z at *
  grind (splits := 40)
theorem rX7_fit : ∀ as σ, pX7_fit as σ → ∃ K as', as = .ref K :: as' ∧ xob WM K 7 := by
  rintro as σ ⟨s, n, rfl, hpre⟩
  exact ⟨_, _, rfl, by first | exact hpre | exact hpre.1 | exact obT hpre | exact obT hpre.1 | exact obS hpre | exact obS hpre.1 | exact obM | exact ob6 | exact ob2 | exact ob0⟩
def pX7_began (as : List Value) (σ : xS) : Prop := ∃ (s : Int32) (n : Int32) (x : Int32), as = [.ref 0, .int s, .int n, .int x] ∧ ((0 ≤ σ.1 0 1) ∧ (σ.1 0 1 ≤ 6) ∧ (0 ≤ σ.1 0 0) ∧ (σ.1 0 0 ≤ 8) ∧ ((0 ≤ x ∧ x < σ.1 0 1) → ∀ g, g < tn (σ.1 0 0) → BOK (bgM (bnU (bnS fitsT σ x (σ.1 16 (tn x)) g) x (σ.1 16 (tn x)) g)) ∧ ¬ σ.1 8 g = 0))
def fX7_began (as : List Value) (σ : xS) : Option Value × xS := match as with
  | [.ref 0, .int s, .int n, .int x] => (some (.int (begM σ s n x).1), (begM σ s n x).2)
  | _ => (none, σ)
theorem pX7_began_e {s : Int32} {n : Int32} {x : Int32} {σ : xS} : pX7_began [.ref 0, .int s, .int n, .int x] σ = ((0 ≤ σ.1 0 1) ∧ (σ.1 0 1 ≤ 6) ∧ (0 ≤ σ.1 0 0) ∧ (σ.1 0 0 ≤ 8) ∧ ((0 ≤ x ∧ x < σ.1 0 1) → ∀ g, g < tn (σ.1 0 0) → BOK (bgM (bnU (bnS fitsT σ x (σ.1 16 (tn x)) g) x (σ.1 16 (tn x)) g)) ∧ ¬ σ.1 8 g = 0)) := propext ⟨fun h => by obtain ⟨s, n, x, e, h⟩ := h; cases e; exact h, fun h => ⟨s, n, x, rfl, h⟩⟩
theorem fX7_began_e {s : Int32} {n : Int32} {x : Int32} {σ : xS} : fX7_began [.ref 0, .int s, .int n, .int x] σ = (some (.int (begM σ s n x).1), (begM σ s n x).2) := rfl
def calX7_began : List (Nat × xCall) := [(132, (false, 2, pX7_isShelf, fX7_isShelf)), (140, (false, 2, pX7_isWalker, fX7_isWalker)), (320, (false, 3, pX7_sights, fX7_sights)), (136, (false, 2, pX7_no, fX7_no)), (323, (false, 3, pX7_fits, fX7_fits))]
theorem c_X7_began_132 : xlk calX7_began 132 = some (false, 2, pX7_isShelf, fX7_isShelf) := rfl
theorem c_X7_began_140 : xlk calX7_began 140 = some (false, 2, pX7_isWalker, fX7_isWalker) := rfl
theorem c_X7_began_320 : xlk calX7_began 320 = some (false, 3, pX7_sights, fX7_sights) := rfl
theorem c_X7_began_136 : xlk calX7_began 136 = some (false, 2, pX7_no, fX7_no) := rfl
theorem c_X7_began_323 : xlk calX7_began 323 = some (false, 3, pX7_fits, fX7_fits) := rfl
set_option maxHeartbeats 1000000 in
set_option maxRecDepth 100000 in
theorem mX7_began : xMet WM yX7_began cX7_began 9 (some .int) 5 pX7_began fX7_began := by
  refine xMet_of (fld := xlk fldX7) (cal := xlk calX7_began) (ks := xlk []) (gs := xlk []) (ro := fun _ => none) 0 (by decide) WM_nd rfl fldX7_ok xKs_nil xGs_nil (Or.inr rfl) (xcal_cons (xCk_V mX7_isShelf 7 (by decide) (by decide) (by decide) rfl (fun as σ h _ => rX7_isShelf as σ h) w_X7_132 ⟨by decide, by decide, by decide +kernel⟩) (xcal_cons (xCk_V mX7_isWalker 7 (by decide) (by decide) (by decide) rfl (fun as σ h _ => rX7_isWalker as σ h) w_X7_140 ⟨by decide, by decide, by decide +kernel⟩) (xcal_cons (xCk_V mX7_sights 7 (by decide) (by decide) (by decide) rfl (fun as σ h _ => rX7_sights as σ h) w_X7_320 ⟨by decide, by decide, by decide +kernel⟩) (xcal_cons (xCk_V mX7_no 7 (by decide) (by decide) (by decide) rfl (fun as σ h _ => rX7_no as σ h) w_X7_136 ⟨by decide, by decide, by decide +kernel⟩) (xcal_cons (xCk_V mX7_fits 7 (by decide) (by decide) (by decide) rfl (fun as σ h _ => rX7_fits as σ h) w_X7_323 ⟨by decide, by decide, by decide +kernel⟩) xcal_nil))))) ?_ ?_
  · rintro av σ ⟨s, n, x, rfl, hpre⟩
    exact Nat.le_of_ble_eq_true rfl
  rintro av σ ⟨s, n, x, rfl, ⟨hp1, hp2, hp3, hp4, hp5⟩⟩ Rt hR
  have hR2 := hR2_g (Rt := Rt) (F := begM σ s n x) (fun r s' => by rw [hR, fX7_began_e])
  clear hR
  have hnb : nbP (sitM σ s n) = True := nbP_si
  have h6x : 0 ≤ x ∧ x < σ.1 0 1 → 0 ≤ x ∧ tn x < 6 := fun h => ⟨h.1, tn6 h hp2⟩
  have hsh : sitM σ s n = 0 → 0 ≤ s ∧ s < 8 := fun h => (sit_s h).1
  have h62 : ((0 ≤ x ∧ x < σ.1 0 1) ∧ sitM σ s n = 0) → xGo WM 9 (xlk fldX7) (xlk calX7_began) (xlk []) (xlk []) (fun _ => none) 0 cX7_began Rt 62 [some (.ref 0), some (.int s), some (.int n), some (.int x), none, some (.int (σ.1 15 (tn x))), some (.int (σ.1 16 (tn x))), some (.int 0), some (.int (nI 0))] [] σ := fun hg => by
    obtain ⟨hx, hb⟩ := hg
    have g0 : begM σ s n x = (bnA fitsT (fun τ => fitsV τ s n) σ n x (σ.1 16 (tn x)) (tn (σ.1 0 0)), xI (xI (bnS fitsT σ x (σ.1 16 (tn x)) (tn (σ.1 0 0))) 15 (tn x) (σ.1 15 (tn x))) 16 (tn x) (σ.1 16 (tn x))) := by rw [begM, if_neg (fun q => q.2 hx), if_neg (fun q => q hb)]
    rw [g0] at hR2
    obtain ⟨hs, hn⟩ := sit_s hb
    have hx0 := hx.1
    have hx6 := tn6 hx hp2
    have hB := hp5 hx
    have hwk8 := xwk8 hp4
    clear g0 hnb h6x hsh
    generalize hd : σ.1 16 (tn x) = d0 at *
    have h1 : ∀ i, i ≤ tn (σ.1 0 0) → xGo WM 9 (xlk fldX7) (xlk calX7_began) (xlk []) (xlk []) (fun _ => none) 0 cX7_began Rt 62 [some (.ref 0), some (.int s), some (.int n), some (.int x), none, some (.int (σ.1 15 (tn x))), some (.int d0), some (.int (bnA fitsT (fun τ => fitsV τ s n) σ n x d0 i)), some (.int (nI i))] [] (bnS fitsT σ x d0 i) := by
      refine xcount (tn (σ.1 0 0)) (fun i => xGo WM 9 (xlk fldX7) (xlk calX7_began) (xlk []) (xlk []) (fun _ => none) 0 cX7_began Rt 62 [some (.ref 0), some (.int s), some (.int n), some (.int x), none, some (.int (σ.1 15 (tn x))), some (.int d0), some (.int (bnA fitsT (fun τ => fitsV τ s n) σ n x d0 i)), some (.int (nI i))] [] (bnS fitsT σ x d0 i)) (fun i hi ih => ?_)
      have hc := le_nI_tn (i := i) (x := σ.1 0 0) hi
      have e0i : 0 ≤ nI i := nI_pos' (by omega)
      have e1i : nI i + 1 = nI (i + 1) := nI_1 i
      have e2i : tn (nI i) = i := tn_nI (by omega)
      
      have hk : ∀ c, (bnS fitsT σ x d0 i).1 0 c = σ.1 0 c := fun c => bnS_o (fun τ a c h => fitsT_o h) (by omega)
      have h8 : i < tn (σ.1 0 0) → ¬ (bnS fitsT σ x d0 i).1 8 i = 0 := fun h => by rw [bnS_o (fun τ a c h => fitsT_o h) (by omega)]; exact (hB i h).2
      have hBi : i < tn (σ.1 0 0) → BOK (bgM (bnU (bnS fitsT σ x d0 i) x d0 i)) := fun h => (hB i h).1
      have kU : ∀ c, (bnU (bnS fitsT σ x d0 i) x d0 i).1 0 c = σ.1 0 c := fun c => by rw [bnU_o (by omega), hk]
      refine xtoCs [(62, xPc (i < tn (σ.1 0 0)) [some (.ref 0), some (.int s), some (.int n), some (.int x), none, some (.int (σ.1 15 (tn x))), some (.int d0), some (.int (bnA fitsT (fun τ => fitsV τ s n) σ n x d0 (i + 1))), some (.int (nI (i + 1)))] (bnS fitsT σ x d0 (i + 1)))] (xcs_cons (ih) xcs_nil) 50 (fun cf hcf => ?_)
      have k62 : cf 62 = some (xPc (i < tn (σ.1 0 0)) [some (.ref 0), some (.int s), some (.int n), some (.int x), none, some (.int (σ.1 15 (tn x))), some (.int d0), some (.int (bnA fitsT (fun τ => fitsV τ s n) σ n x d0 (i + 1))), some (.int (nI (i + 1)))] (bnS fitsT σ x d0 (i + 1))) := (hcf 62).trans rfl
      have kn : ∀ pc, ¬ pc = 62 → cf pc = none := fun pc h0 => by rw [hcf, xlk_c, if_neg h0, xlk_n]
      clear hcf
      simp (config := {maxSteps := 4000000, implicitDefEqProofs := false}) only [xwp_2, xwp_0, xwp_1, xws_s, xdd_o, xld_0, xld_s, xs1_0, xs1_1, xs1_s, xs2_0, xs2_1, xs2_s, xlg_n, xlg_i, xlg_r, xlg_z, xlg_l, xf4_0, xf4_1, xf4_2, xf4_3, xgo_e, xcmp_eq, xcmp_ne, xcmp_lt, xcmp_ge, xcmp_gt, xcmp_le, xfg_0, xfg_1, xfg_2, xfg_3, xfg_4, xpop_0, xpop_s, xsw_n, xsw_c, xtb_n, xtb_c, xenp_n, xenp_i, xenp_r, xenp_z, xenp_l, xrep_0, xrep_s, Nat.reduceSub, true_and, and_true, cat_i, cat_r, Nat.reduceAdd, Nat.reduceLT, Nat.reduceLeDiff, Nat.reduceEqDiff, xnc, Int.reduceAdd, Int.reduceSub, Int.reduceNeg, Int.reduceLE, Int.reduceLT, Int.reduceToNat, ↓reduceIte, List.length_cons, List.length_nil, xlc0, xlc1, ite_10, i10, i01, i0_2, i0_3, i0_4, i0_6, i0_7, i0_8, i0_49, i0_10, or_true, true_or, or_false, false_or, not_false_eq_true, not_true_eq_false, xnt, xI_g, eq_self, xI_2, xJ_1, false_and, and_false, obM_t, rMi, vp_tn, tn_def, lgc, nI8, nI6, nI160, nI20, nI401, nI49, aM_6, aM_7, aM_8, aM_9, aM_10, aM_11, aM_12, aM_13, aM_14, aM_15, aM_16, aM_17, aM_18, aM_19, aM_20, aM_21, aM_22, aM_23, aM_24, aM_25, aM_26, aM_27, aM_28, aM_29, aM_30, aM_31, aM_38, aM_39, aM_40, aM_41, aM_42, aM_43, aM_44, aM_45, aM_46, aM_47, lM_6, lM_7, lM_8, lM_9, lM_10, lM_11, lM_12, lM_13, lM_14, lM_15, lM_16, lM_17, lM_18, lM_19, lM_20, lM_21, lM_22, lM_23, lM_24, lM_25, lM_26, lM_27, lM_28, lM_29, lM_30, lM_31, lM_38, lM_39, lM_40, lM_41, lM_42, lM_43, lM_44, lM_45, lM_46, lM_47, dX7_began_0, st_aload_n, dX7_began_1, st_iload_n, dX7_began_2, st_invokevirtual, dX7_began_5, st_ifCond, dX7_began_8, dX7_began_9, dX7_began_10, dX7_began_13, dX7_began_16, st_iconst, dX7_began_17, st_goto, dX7_began_20, dX7_began_21, dX7_began_22, dX7_began_23, dX7_began_26, st_istore, dX7_began_28, st_iload, dX7_began_30, dX7_began_33, dX7_began_34, dX7_began_36, dX7_began_39, st_ireturn, dX7_began_40, dX7_began_41, st_getfield, fl_X7_44, dX7_began_44, dX7_began_45, st_iaload, dX7_began_46, dX7_began_48, dX7_began_49, fl_X7_47, dX7_began_52, dX7_began_53, dX7_began_54, dX7_began_56, dX7_began_57, dX7_began_59, dX7_began_60, dX7_began_62, dX7_began_64, dX7_began_65, fl_X7_129, dX7_began_68, st_if_icmp, dX7_began_71, dX7_began_72, dX7_began_75, dX7_began_76, dX7_began_78, st_iastore, dX7_began_79, dX7_began_80, dX7_began_83, dX7_began_84, dX7_began_86, dX7_began_87, fl_X7_23, dX7_began_90, dX7_began_92, dX7_began_93, st_irem, dX7_began_94, dX7_began_95, dX7_began_96, dX7_began_97, dX7_began_98, dX7_began_101, dX7_began_102, dX7_began_105, dX7_began_107, dX7_began_108, dX7_began_110, st_ishl, dX7_began_111, st_ior, dX7_began_112, dX7_began_114, st_iinc, dX7_began_117, dX7_began_120, dX7_began_121, dX7_began_124, dX7_began_125, dX7_began_127, dX7_began_128, dX7_began_129, dX7_began_132, dX7_began_133, dX7_began_135, dX7_began_136, dX7_began_138, c_X7_began_132, pX7_isShelf_e, fX7_isShelf_e, Option.toList_some, Option.toList_none, List.cons_append, List.nil_append, c_X7_began_140, pX7_isWalker_e, fX7_isWalker_e, c_X7_began_320, pX7_sights_e, fX7_sights_e, c_X7_began_136, pX7_no_e, fX7_no_e, c_X7_began_323, pX7_fits_e, fX7_fits_e, ofI_m1, ofI_0, ofJ_1, hp1, hp2, hp3, hp4, hp5, xwp_s, xcu_s, xcu_n, xPc_e, xsub_0, xsub_n, xsub_s, k62, kn, hc, e0i, e1i, e2i, hk, h8, hx0, hx6, bnU_f, bnS_s, kU, hs, hn, hp1, hp2, hBi]
      have fin : tn (σ.1 0 0) ≤ i → i = tn (σ.1 0 0) := fun h => by omega
      rw [bnA_s]
      simp only [hR2]
      refine ⟨fun h => ?_, fun h => ?_⟩
      · have hi' : i = tn (σ.1 0 0) := by omega
        rw [hi']
      · have hlt : i < tn (σ.1 0 0) := by omega
        have hi8 : i < 8 := by omega
        have hBt := hBi hlt
        have h8t := h8 hlt
        simp only [hi8, hlt, hBt, h8t, not_false_eq_true, true_and, and_true, true_implies, and_self]
        clear hR2 hc ih hB hBi hBt h8 h8t
        generalize fitsV (bnU (bnS fitsT σ x d0 i) x d0 i) s n = v at *
        grind
    have h2 := h1 0 (Nat.zero_le _)
    rw [bnS_0, bnA_0] at h2
    exact h2
  refine xtoC [(62, xPc ((0 ≤ x ∧ x < σ.1 0 1) ∧ sitM σ s n = 0) [some (.ref 0), some (.int s), some (.int n), some (.int x), none, some (.int (σ.1 15 (tn x))), some (.int (σ.1 16 (tn x))), some (.int 0), some (.int (nI 0))] (σ))] (xcs_cons (h62) xcs_nil) 36 (fun cf hcf => ?_)
  have k62 : cf 62 = some (xPc ((0 ≤ x ∧ x < σ.1 0 1) ∧ sitM σ s n = 0) [some (.ref 0), some (.int s), some (.int n), some (.int x), none, some (.int (σ.1 15 (tn x))), some (.int (σ.1 16 (tn x))), some (.int 0), some (.int (nI 0))] (σ)) := (hcf 62).trans rfl
  have kn : ∀ pc, ¬ pc = 62 → cf pc = none := fun pc h0 => by rw [hcf, xlk_c, if_neg h0, xlk_n]
  clear hcf
  simp (config := {maxSteps := 4000000, implicitDefEqProofs := false}) only [xwp_2, xwp_0, xwp_1, xws_s, xdd_o, xld_0, xld_s, xs1_0, xs1_1, xs1_s, xs2_0, xs2_1, xs2_s, xlg_n, xlg_i, xlg_r, xlg_z, xlg_l, xf4_0, xf4_1, xf4_2, xf4_3, xgo_e, xcmp_eq, xcmp_ne, xcmp_lt, xcmp_ge, xcmp_gt, xcmp_le, xfg_0, xfg_1, xfg_2, xfg_3, xfg_4, xpop_0, xpop_s, xsw_n, xsw_c, xtb_n, xtb_c, xenp_n, xenp_i, xenp_r, xenp_z, xenp_l, xrep_0, xrep_s, Nat.reduceSub, true_and, and_true, cat_i, cat_r, Nat.reduceAdd, Nat.reduceLT, Nat.reduceLeDiff, Nat.reduceEqDiff, xnc, Int.reduceAdd, Int.reduceSub, Int.reduceNeg, Int.reduceLE, Int.reduceLT, Int.reduceToNat, ↓reduceIte, List.length_cons, List.length_nil, xlc0, xlc1, ite_10, i10, i01, i0_2, i0_3, i0_4, i0_6, i0_7, i0_8, i0_49, i0_10, or_true, true_or, or_false, false_or, not_false_eq_true, not_true_eq_false, xnt, xI_g, eq_self, xI_2, xJ_1, false_and, and_false, obM_t, rMi, vp_tn, tn_def, lgc, nI8, nI6, nI160, nI20, nI401, nI49, aM_6, aM_7, aM_8, aM_9, aM_10, aM_11, aM_12, aM_13, aM_14, aM_15, aM_16, aM_17, aM_18, aM_19, aM_20, aM_21, aM_22, aM_23, aM_24, aM_25, aM_26, aM_27, aM_28, aM_29, aM_30, aM_31, aM_38, aM_39, aM_40, aM_41, aM_42, aM_43, aM_44, aM_45, aM_46, aM_47, lM_6, lM_7, lM_8, lM_9, lM_10, lM_11, lM_12, lM_13, lM_14, lM_15, lM_16, lM_17, lM_18, lM_19, lM_20, lM_21, lM_22, lM_23, lM_24, lM_25, lM_26, lM_27, lM_28, lM_29, lM_30, lM_31, lM_38, lM_39, lM_40, lM_41, lM_42, lM_43, lM_44, lM_45, lM_46, lM_47, dX7_began_0, st_aload_n, dX7_began_1, st_iload_n, dX7_began_2, st_invokevirtual, dX7_began_5, st_ifCond, dX7_began_8, dX7_began_9, dX7_began_10, dX7_began_13, dX7_began_16, st_iconst, dX7_began_17, st_goto, dX7_began_20, dX7_began_21, dX7_began_22, dX7_began_23, dX7_began_26, st_istore, dX7_began_28, st_iload, dX7_began_30, dX7_began_33, dX7_began_34, dX7_began_36, dX7_began_39, st_ireturn, dX7_began_40, dX7_began_41, st_getfield, fl_X7_44, dX7_began_44, dX7_began_45, st_iaload, dX7_began_46, dX7_began_48, dX7_began_49, fl_X7_47, dX7_began_52, dX7_began_53, dX7_began_54, dX7_began_56, dX7_began_57, dX7_began_59, dX7_began_60, dX7_began_62, dX7_began_64, dX7_began_65, fl_X7_129, dX7_began_68, st_if_icmp, dX7_began_71, dX7_began_72, dX7_began_75, dX7_began_76, dX7_began_78, st_iastore, dX7_began_79, dX7_began_80, dX7_began_83, dX7_began_84, dX7_began_86, dX7_began_87, fl_X7_23, dX7_began_90, dX7_began_92, dX7_began_93, st_irem, dX7_began_94, dX7_began_95, dX7_began_96, dX7_began_97, dX7_began_98, dX7_began_101, dX7_began_102, dX7_began_105, dX7_began_107, dX7_began_108, dX7_began_110, st_ishl, dX7_began_111, st_ior, dX7_began_112, dX7_began_114, st_iinc, dX7_began_117, dX7_began_120, dX7_began_121, dX7_began_124, dX7_began_125, dX7_began_127, dX7_began_128, dX7_began_129, dX7_began_132, dX7_began_133, dX7_began_135, dX7_began_136, dX7_began_138, c_X7_began_132, pX7_isShelf_e, fX7_isShelf_e, Option.toList_some, Option.toList_none, List.cons_append, List.nil_append, c_X7_began_140, pX7_isWalker_e, fX7_isWalker_e, c_X7_began_320, pX7_sights_e, fX7_sights_e, c_X7_began_136, pX7_no_e, fX7_no_e, c_X7_began_323, pX7_fits_e, fX7_fits_e, ofI_m1, ofI_0, ofJ_1, hp1, hp2, hp3, hp4, hp5, xwp_s, xcu_s, xcu_n, xPc_e, xsub_0, xsub_n, xsub_s, k62, kn, nI_00, hnb, nbP_1]
  simp only [hR2, begM, noM]
  clear hR2 h62 hnb hp5
  generalize sitM σ s n = u at *
  generalize bnA fitsT (fun τ => fitsV τ s n) σ n x (σ.1 16 (tn x)) (tn (σ.1 0 0)) = v at *
  grind (splits := 40)
theorem rX7_began : ∀ as σ, pX7_began as σ → ∃ K as', as = .ref K :: as' ∧ xob WM K 7 := by
  rintro as σ ⟨s, n, x, rfl, hpre⟩
  exact ⟨_, _, rfl, by first | exact hpre | exact hpre.1 | exact obT hpre | exact obT hpre.1 | exact obS hpre | exact obS hpre.1 | exact obM | exact ob6 | exact ob2 | exact ob0⟩
