/-! many beats, as the reference does them -/
def gbM : Nat → xS → xS
  | 0, σ => σ
  | i + 1, σ => beM (gbM i σ)
def mbM : Nat → xS → Int32
  | 0, _ => 0
  | i + 1, σ => mbM i σ + mcM (gbM i σ)
theorem gbM_s {i : Nat} {σ : xS} : gbM (i + 1) σ = beM (gbM i σ) := rfl
theorem mbM_s {i : Nat} {σ : xS} : mbM (i + 1) σ = mbM i σ + mcM (gbM i σ) := rfl
theorem gbM_0 {σ : xS} : gbM 0 σ = σ := rfl
theorem mbM_0 {σ : xS} : mbM 0 σ = 0 := rfl
theorem gbM_o {σ : xS} {a b : Nat} (h : a < 13 ∨ 17 < a ∧ a < 40 ∨ 44 < a) : ∀ {i : Nat}, (gbM i σ).1 a b = σ.1 a b
  | 0 => rfl
  | i + 1 => by rw [gbM_s, beM_o h]; exact gbM_o h
theorem gbM_k {σ : xS} {i b : Nat} : (gbM i σ).1 0 b = σ.1 0 b := gbM_o (by omega)
def BOK (σ : xS) : Prop := ∀ k, dyA (gbM k σ)
theorem BOK_e {σ : xS} (h : BOK σ) (k : Nat) : dyA (gbM k σ) := h k
theorem bgM_o {σ : xS} {a b : Nat} (h : a < 18 ∨ 22 < a) : (bgM σ).1 a b = σ.1 a b := by
  unfold bgM
  refine cpA_e ?_
  unfold mBG
  rw [if_neg (by omega), if_neg (by omega), if_neg (by omega), if_neg (by omega), if_neg (by omega)]
theorem bgM_k {σ : xS} {b : Nat} : (bgM σ).1 0 b = σ.1 0 b := bgM_o (by omega)
theorem baM_o {σ : xS} {a b : Nat} (h : a < 13 ∨ 17 < a) : (baM σ).1 a b = σ.1 a b := by
  unfold baM
  refine cpA_e ?_
  unfold mBA
  rw [if_neg (by omega), if_neg (by omega), if_neg (by omega), if_neg (by omega), if_neg (by omega)]
theorem baM_k {σ : xS} {b : Nat} : (baM σ).1 0 b = σ.1 0 b := baM_o (by omega)
def pX7_go (as : List Value) (σ : xS) : Prop := ∃ (n : Int32), as = [.ref 0, .int n] ∧ ((0 ≤ σ.1 0 1) ∧ (σ.1 0 1 ≤ 6) ∧ (BOK σ))
def fX7_go (as : List Value) (σ : xS) : Option Value × xS := match as with
  | [.ref 0, .int n] => (some (.int (mbM (tn n) σ)), gbM (tn n) σ)
  | _ => (none, σ)
theorem pX7_go_e {n : Int32} {σ : xS} : pX7_go [.ref 0, .int n] σ = ((0 ≤ σ.1 0 1) ∧ (σ.1 0 1 ≤ 6) ∧ (BOK σ)) := propext ⟨fun h => by obtain ⟨n, e, h⟩ := h; cases e; exact h, fun h => ⟨n, rfl, h⟩⟩
theorem fX7_go_e {n : Int32} {σ : xS} : fX7_go [.ref 0, .int n] σ = (some (.int (mbM (tn n) σ)), gbM (tn n) σ) := rfl
def calX7_go : List (Nat × xCall) := [(284, (false, 1, pX7_beats1, fX7_beats1))]
theorem c_X7_go_284 : xlk calX7_go 284 = some (false, 1, pX7_beats1, fX7_beats1) := rfl
set_option maxHeartbeats 4000000 in
set_option maxRecDepth 100000 in
theorem mX7_go : xMet WM yX7_go cX7_go 4 (some .int) 4 pX7_go fX7_go := by
  refine xMet_of (fld := xlk fldX7) (cal := xlk calX7_go) (ks := xlk []) (gs := xlk []) (ro := fun _ => none) 0 (by decide) WM_nd rfl fldX7_ok xKs_nil xGs_nil (Or.inr rfl) (xcal_cons (xCk_V mX7_beats1 7 (by decide) (by decide) (by decide) rfl (fun as σ h _ => rX7_beats1 as σ h) w_X7_284 ⟨by decide, by decide, by decide +kernel⟩) xcal_nil) ?_ ?_
  · rintro av σ ⟨n, rfl, hpre⟩
    exact Nat.le_of_ble_eq_true rfl
  rintro av σ ⟨n, rfl, ⟨hp1, hp2, hp3⟩⟩ Rt hR
  have hx : fX7_go [.ref 0, .int n] σ = (some (.int (mbM (tn n) σ)), gbM (tn n) σ) := rfl
  rw [hx] at hR
  clear hx
  have hB := BOK_e hp3
  have htn := tn_lt31 n
  have h1 : ∀ i, i ≤ tn n → xGo WM 4 (xlk fldX7) (xlk calX7_go) (xlk []) (xlk []) (fun _ => none) 0 cX7_go Rt 4 [some (.ref 0), some (.int n), some (.int (mbM i σ)), some (.int (nI i))] [] (gbM i σ) := by
    refine xcount (tn n) (fun i => xGo WM 4 (xlk fldX7) (xlk calX7_go) (xlk []) (xlk []) (fun _ => none) 0 cX7_go Rt 4 [some (.ref 0), some (.int n), some (.int (mbM i σ)), some (.int (nI i))] [] (gbM i σ)) (fun i hi ih => ?_)
    have hc := le_nI_tn (i := i) (x := n) hi
    have e1 : nI i + 1 = nI (i + 1) := nI_1 i
    have hBi := hB i
    refine xtoCs [(4, xPc (i < tn n) [some (.ref 0), some (.int n), some (.int (mbM (i + 1) σ)), some (.int (nI (i + 1)))] (gbM (i + 1) σ))] (xcs_cons (ih) xcs_nil) 60 (fun cf hcf => ?_)
    have k4 : cf 4 = some (xPc (i < tn n) [some (.ref 0), some (.int n), some (.int (mbM (i + 1) σ)), some (.int (nI (i + 1)))] (gbM (i + 1) σ)) := (hcf 4).trans rfl
    have kn : ∀ pc, ¬ pc = 4 → cf pc = none := fun pc h0 => by rw [hcf, xlk_c, if_neg h0, xlk_n]
    clear hcf
    simp (config := {maxSteps := 4000000, implicitDefEqProofs := false}) only [xwp_2, xwp_0, xwp_1, xws_s, xdd_o, xld_0, xld_s, xs1_0, xs1_1, xs1_s, xs2_0, xs2_1, xs2_s, xlg_n, xlg_i, xlg_r, xlg_z, xlg_l, xf4_0, xf4_1, xf4_2, xf4_3, xgo_e, xcmp_eq, xcmp_ne, xcmp_lt, xcmp_ge, xcmp_gt, xcmp_le, xfg_0, xfg_1, xfg_2, xfg_3, xfg_4, xpop_0, xpop_s, xsw_n, xsw_c, xtb_n, xtb_c, xenp_n, xenp_i, xenp_r, xenp_z, xenp_l, xrep_0, xrep_s, Nat.reduceSub, true_and, and_true, cat_i, cat_r, Nat.reduceAdd, Nat.reduceLT, Nat.reduceLeDiff, Nat.reduceEqDiff, xnc, Int.reduceAdd, Int.reduceSub, Int.reduceNeg, Int.reduceLE, Int.reduceLT, Int.reduceToNat, ↓reduceIte, List.length_cons, List.length_nil, xlc0, xlc1, ite_10, i10, i01, i0_2, i0_3, i0_4, i0_6, i0_7, i0_8, i0_49, i0_10, or_true, true_or, or_false, false_or, not_false_eq_true, not_true_eq_false, xnt, xI_g, eq_self, xI_2, xJ_1, false_and, and_false, obM_t, rMi, vp_tn, tn_def, lgc, nI8, nI6, nI160, nI20, nI401, nI49, aM_6, aM_7, aM_8, aM_9, aM_10, aM_11, aM_12, aM_13, aM_14, aM_15, aM_16, aM_17, aM_18, aM_19, aM_20, aM_21, aM_22, aM_23, aM_24, aM_25, aM_26, aM_27, aM_28, aM_29, aM_30, aM_31, aM_38, aM_39, aM_40, aM_41, aM_42, aM_43, aM_44, aM_45, aM_46, aM_47, lM_6, lM_7, lM_8, lM_9, lM_10, lM_11, lM_12, lM_13, lM_14, lM_15, lM_16, lM_17, lM_18, lM_19, lM_20, lM_21, lM_22, lM_23, lM_24, lM_25, lM_26, lM_27, lM_28, lM_29, lM_30, lM_31, lM_38, lM_39, lM_40, lM_41, lM_42, lM_43, lM_44, lM_45, lM_46, lM_47, dX7_go_0, st_iconst, dX7_go_1, st_istore_n, dX7_go_2, dX7_go_3, dX7_go_4, st_iload_n, dX7_go_5, dX7_go_6, st_if_icmp, dX7_go_9, dX7_go_10, st_aload_n, dX7_go_11, st_invokevirtual, dX7_go_14, st_iadd, dX7_go_15, dX7_go_16, st_iinc, dX7_go_19, st_goto, dX7_go_22, dX7_go_23, st_ireturn, c_X7_go_284, pX7_beats1_e, fX7_beats1_e, Option.toList_some, Option.toList_none, List.cons_append, List.nil_append, ofI_0, ofJ_1, hp1, hp2, hp3, xwp_s, xcu_s, xcu_n, xPc_e, xsub_0, xsub_n, xsub_s, k4, kn, hc, e1, gbM_k, hBi]
    have fin : ¬ i < tn n → i = tn n := fun h => by omega
    rw [mbM_s, gbM_s]
    simp only [hR]
    clear hR hc ih hB
    refine ⟨fun h => ?_, fun h => ?_⟩
    · rw [fin h]
      exact ⟨rfl, rfl⟩
    · simp only [h, and_self]
  refine xtoC [(4, xPc (True) [some (.ref 0), some (.int n), some (.int (mbM 0 σ)), some (.int (nI 0))] (gbM 0 σ))] (xcs_cons (fun _ => h1 0 (Nat.zero_le _)) xcs_nil) 10 (fun cf hcf => ?_)
  have k4 : cf 4 = some (xPc (True) [some (.ref 0), some (.int n), some (.int (mbM 0 σ)), some (.int (nI 0))] (gbM 0 σ)) := (hcf 4).trans rfl
  have kn : ∀ pc, ¬ pc = 4 → cf pc = none := fun pc h0 => by rw [hcf, xlk_c, if_neg h0, xlk_n]
  clear hcf
  simp (config := {maxSteps := 4000000, implicitDefEqProofs := false}) only [xwp_2, xwp_0, xwp_1, xws_s, xdd_o, xld_0, xld_s, xs1_0, xs1_1, xs1_s, xs2_0, xs2_1, xs2_s, xlg_n, xlg_i, xlg_r, xlg_z, xlg_l, xf4_0, xf4_1, xf4_2, xf4_3, xgo_e, xcmp_eq, xcmp_ne, xcmp_lt, xcmp_ge, xcmp_gt, xcmp_le, xfg_0, xfg_1, xfg_2, xfg_3, xfg_4, xpop_0, xpop_s, xsw_n, xsw_c, xtb_n, xtb_c, xenp_n, xenp_i, xenp_r, xenp_z, xenp_l, xrep_0, xrep_s, Nat.reduceSub, true_and, and_true, cat_i, cat_r, Nat.reduceAdd, Nat.reduceLT, Nat.reduceLeDiff, Nat.reduceEqDiff, xnc, Int.reduceAdd, Int.reduceSub, Int.reduceNeg, Int.reduceLE, Int.reduceLT, Int.reduceToNat, ↓reduceIte, List.length_cons, List.length_nil, xlc0, xlc1, ite_10, i10, i01, i0_2, i0_3, i0_4, i0_6, i0_7, i0_8, i0_49, i0_10, or_true, true_or, or_false, false_or, not_false_eq_true, not_true_eq_false, xnt, xI_g, eq_self, xI_2, xJ_1, false_and, and_false, obM_t, rMi, vp_tn, tn_def, lgc, nI8, nI6, nI160, nI20, nI401, nI49, aM_6, aM_7, aM_8, aM_9, aM_10, aM_11, aM_12, aM_13, aM_14, aM_15, aM_16, aM_17, aM_18, aM_19, aM_20, aM_21, aM_22, aM_23, aM_24, aM_25, aM_26, aM_27, aM_28, aM_29, aM_30, aM_31, aM_38, aM_39, aM_40, aM_41, aM_42, aM_43, aM_44, aM_45, aM_46, aM_47, lM_6, lM_7, lM_8, lM_9, lM_10, lM_11, lM_12, lM_13, lM_14, lM_15, lM_16, lM_17, lM_18, lM_19, lM_20, lM_21, lM_22, lM_23, lM_24, lM_25, lM_26, lM_27, lM_28, lM_29, lM_30, lM_31, lM_38, lM_39, lM_40, lM_41, lM_42, lM_43, lM_44, lM_45, lM_46, lM_47, dX7_go_0, st_iconst, dX7_go_1, st_istore_n, dX7_go_2, dX7_go_3, dX7_go_4, st_iload_n, dX7_go_5, dX7_go_6, st_if_icmp, dX7_go_9, dX7_go_10, st_aload_n, dX7_go_11, st_invokevirtual, dX7_go_14, st_iadd, dX7_go_15, dX7_go_16, st_iinc, dX7_go_19, st_goto, dX7_go_22, dX7_go_23, st_ireturn, c_X7_go_284, pX7_beats1_e, fX7_beats1_e, Option.toList_some, Option.toList_none, List.cons_append, List.nil_append, ofI_0, ofJ_1, hp1, hp2, hp3, xwp_s, xcu_s, xcu_n, xPc_e, xsub_0, xsub_n, xsub_s, k4, kn, nI_00, mbM_0, gbM_0]
theorem rX7_go : ∀ as σ, pX7_go as σ → ∃ K as', as = .ref K :: as' ∧ xob WM K 7 := by
  rintro as σ ⟨n, rfl, hpre⟩
  exact ⟨_, _, rfl, by first | exact hpre | exact hpre.1 | exact obT hpre | exact obT hpre.1 | exact obS hpre | exact obS hpre.1 | exact obM | exact ob6 | exact ob2 | exact ob0⟩
def goesM (σ : xS) (n : Int32) : xS := xI (xI (gbM (tn n) σ) 0 2 (σ.1 0 2 + n)) 0 3 (σ.1 0 3 + mbM (tn n) σ)
def pX7_goesOn (as : List Value) (σ : xS) : Prop := ∃ (n : Int32), as = [.ref 0, .int n] ∧ ((0 ≤ σ.1 0 1) ∧ (σ.1 0 1 ≤ 6) ∧ (BOK σ))
def fX7_goesOn (as : List Value) (σ : xS) : Option Value × xS := match as with
  | [.ref 0, .int n] => (some (.int (mbM (tn n) σ)), goesM σ n)
  | _ => (none, σ)
theorem pX7_goesOn_e {n : Int32} {σ : xS} : pX7_goesOn [.ref 0, .int n] σ = ((0 ≤ σ.1 0 1) ∧ (σ.1 0 1 ≤ 6) ∧ (BOK σ)) := propext ⟨fun h => by obtain ⟨n, e, h⟩ := h; cases e; exact h, fun h => ⟨n, rfl, h⟩⟩
theorem fX7_goesOn_e {n : Int32} {σ : xS} : fX7_goesOn [.ref 0, .int n] σ = (some (.int (mbM (tn n) σ)), goesM σ n) := rfl
def calX7_goesOn : List (Nat × xCall) := [(293, (false, 2, pX7_go, fX7_go))]
theorem c_X7_goesOn_293 : xlk calX7_goesOn 293 = some (false, 2, pX7_go, fX7_go) := rfl
set_option maxHeartbeats 4000000 in
set_option maxRecDepth 100000 in
theorem mX7_goesOn : xMet WM yX7_goesOn cX7_goesOn 3 (some .int) 5 pX7_goesOn fX7_goesOn := by
  refine xMet_of (fld := xlk fldX7) (cal := xlk calX7_goesOn) (ks := xlk []) (gs := xlk []) (ro := fun _ => none) 0 (by decide) WM_nd rfl fldX7_ok xKs_nil xGs_nil (Or.inr rfl) (xcal_cons (xCk_V mX7_go 7 (by decide) (by decide) (by decide) rfl (fun as σ h _ => rX7_go as σ h) w_X7_293 ⟨by decide, by decide, by decide +kernel⟩) xcal_nil) ?_ ?_
  · rintro av σ ⟨n, rfl, hpre⟩
    exact Nat.le_of_ble_eq_true rfl
  rintro av σ ⟨n, rfl, ⟨hp1, hp2, hp3⟩⟩ Rt hR
  refine xgo0 20 ?_
  simp -implicitDefEqProofs only [xwp_2, xwp_0, xwp_1, xws_s, xdd_o, xld_0, xld_s, xs1_0, xs1_1, xs1_s, xs2_0, xs2_1, xs2_s, xlg_n, xlg_i, xlg_r, xlg_z, xlg_l, xf4_0, xf4_1, xf4_2, xf4_3, xgo_e, xcmp_eq, xcmp_ne, xcmp_lt, xcmp_ge, xcmp_gt, xcmp_le, xfg_0, xfg_1, xfg_2, xfg_3, xfg_4, xpop_0, xpop_s, xsw_n, xsw_c, xtb_n, xtb_c, xenp_n, xenp_i, xenp_r, xenp_z, xenp_l, xrep_0, xrep_s, Nat.reduceSub, true_and, and_true, cat_i, cat_r, Nat.reduceAdd, Nat.reduceLT, Nat.reduceLeDiff, Nat.reduceEqDiff, xnc, Int.reduceAdd, Int.reduceSub, Int.reduceNeg, Int.reduceLE, Int.reduceLT, Int.reduceToNat, ↓reduceIte, List.length_cons, List.length_nil, xlc0, xlc1, ite_10, i10, i01, i0_2, i0_3, i0_4, i0_6, i0_7, i0_8, i0_49, i0_10, or_true, true_or, or_false, false_or, not_false_eq_true, not_true_eq_false, xnt, xI_g, eq_self, xI_2, xJ_1, false_and, and_false, obM_t, rMi, vp_tn, tn_def, lgc, nI8, nI6, nI160, nI20, nI401, nI49, aM_6, aM_7, aM_8, aM_9, aM_10, aM_11, aM_12, aM_13, aM_14, aM_15, aM_16, aM_17, aM_18, aM_19, aM_20, aM_21, aM_22, aM_23, aM_24, aM_25, aM_26, aM_27, aM_28, aM_29, aM_30, aM_31, aM_38, aM_39, aM_40, aM_41, aM_42, aM_43, aM_44, aM_45, aM_46, aM_47, lM_6, lM_7, lM_8, lM_9, lM_10, lM_11, lM_12, lM_13, lM_14, lM_15, lM_16, lM_17, lM_18, lM_19, lM_20, lM_21, lM_22, lM_23, lM_24, lM_25, lM_26, lM_27, lM_28, lM_29, lM_30, lM_31, lM_38, lM_39, lM_40, lM_41, lM_42, lM_43, lM_44, lM_45, lM_46, lM_47, dX7_goesOn_0, st_aload_n, dX7_goesOn_1, st_iload_n, dX7_goesOn_2, st_invokevirtual, dX7_goesOn_5, st_istore_n, dX7_goesOn_6, dX7_goesOn_7, st_dup, dX7_goesOn_8, st_getfield, fl_X7_245, dX7_goesOn_11, dX7_goesOn_12, st_iadd, dX7_goesOn_13, st_putfield, dX7_goesOn_16, dX7_goesOn_17, dX7_goesOn_18, fl_X7_248, dX7_goesOn_21, dX7_goesOn_22, dX7_goesOn_23, dX7_goesOn_26, dX7_goesOn_27, st_ireturn, c_X7_goesOn_293, pX7_go_e, fX7_go_e, Option.toList_some, Option.toList_none, List.cons_append, List.nil_append, hp1, hp2, hp3, gbM_k]
  simp only [hR, fX7_goesOn_e, goesM, and_self]
theorem rX7_goesOn : ∀ as σ, pX7_goesOn as σ → ∃ K as', as = .ref K :: as' ∧ xob WM K 7 := by
  rintro as σ ⟨n, rfl, hpre⟩
  exact ⟨_, _, rfl, by first | exact hpre | exact hpre.1 | exact obT hpre | exact obT hpre.1 | exact obS hpre | exact obS hpre.1 | exact obM | exact ob6 | exact ob2 | exact ob0⟩
/-- in thought, n beats -/
def thM (σ : xS) (n : Int32) : xS := gbM (tn n) (bgM σ)
theorem thM_k {σ : xS} {n : Int32} {b : Nat} : (thM σ n).1 0 b = σ.1 0 b := by rw [thM, gbM_k, bgM_k]
theorem thM_f {σ : xS} {n : Int32} : gbM (tn n) (bgM σ) = thM σ n := rfl
def attM (σ : xS) (n x y : Int32) : Int32 × xS := if ¬ (0 ≤ x ∧ x < σ.1 0 1) then noM σ (-1) else if y < 0 ∨ 4 < y then noM σ (-5) else if ¬ (0 ≤ n ∧ n ≤ 400) then noM σ (-6) else (ofM (thM σ n) (tn x) y, baM (thM σ n))
theorem tn6 {x k : Int32} (h : 0 ≤ x ∧ x < k) (hk : k ≤ 6) : tn x < 6 := by
  have h1 := t_lt.mp h.2
  have h2 := t_le.mp hk
  have e6 : (6 : Int32).toInt = 6 := rfl
  rw [e6] at h2
  rw [t_tn]
  omega
def havM (σ : xS) (n g : Int32) : Int32 × xS := if ¬ (0 ≤ g ∧ g < σ.1 0 0) then noM σ (-1) else if ¬ (0 ≤ n ∧ n ≤ 400) then noM σ (-6) else (hvM (thM σ n) g, baM (thM σ n))
def mtgM (σ : xS) (n : Int32) : Int32 × xS := if ¬ (0 ≤ n ∧ n ≤ 400) then noM σ (-6) else (mbM (tn n) (bgM σ), baM (thM σ n))
def svM (τ : xS) : Nat → Int32
  | 0 => 0
  | i + 1 => svM τ i ||| xshl 1 (τ.1 15 i)
theorem svM_s {τ : xS} {i : Nat} : svM τ (i + 1) = svM τ i ||| xshl 1 (τ.1 15 i) := rfl
theorem svM_0 {τ : xS} : svM τ 0 = 0 := rfl
def surM (σ : xS) (n : Int32) : Int32 × xS := if ¬ (0 ≤ n ∧ n ≤ 400) then noM σ (-6) else (svM (thM σ n) (tn (σ.1 0 1)), baM (thM σ n))
def pX7_at (as : List Value) (σ : xS) : Prop := ∃ (n : Int32) (x : Int32) (y : Int32), as = [.ref 0, .int n, .int x, .int y] ∧ ((0 ≤ σ.1 0 1) ∧ (σ.1 0 1 ≤ 6) ∧ (BOK (bgM σ)))
def fX7_at (as : List Value) (σ : xS) : Option Value × xS := match as with
  | [.ref 0, .int n, .int x, .int y] => (some (.int (attM σ n x y).1), (attM σ n x y).2)
  | _ => (none, σ)
theorem pX7_at_e {n : Int32} {x : Int32} {y : Int32} {σ : xS} : pX7_at [.ref 0, .int n, .int x, .int y] σ = ((0 ≤ σ.1 0 1) ∧ (σ.1 0 1 ≤ 6) ∧ (BOK (bgM σ))) := propext ⟨fun h => by obtain ⟨n, x, y, e, h⟩ := h; cases e; exact h, fun h => ⟨n, x, y, rfl, h⟩⟩
theorem fX7_at_e {n : Int32} {x : Int32} {y : Int32} {σ : xS} : fX7_at [.ref 0, .int n, .int x, .int y] σ = (some (.int (attM σ n x y).1), (attM σ n x y).2) := rfl
def calX7_at : List (Nat × xCall) := [(140, (false, 2, pX7_isWalker, fX7_isWalker)), (136, (false, 2, pX7_no, fX7_no)), (287, (false, 2, pX7_isBeats, fX7_isBeats)), (290, (false, 1, pX7_begins, fX7_begins)), (293, (false, 2, pX7_go, fX7_go)), (174, (false, 3, pX7_of, fX7_of)), (296, (false, 1, pX7_backAgain, fX7_backAgain))]
theorem c_X7_at_140 : xlk calX7_at 140 = some (false, 2, pX7_isWalker, fX7_isWalker) := rfl
theorem c_X7_at_136 : xlk calX7_at 136 = some (false, 2, pX7_no, fX7_no) := rfl
theorem c_X7_at_287 : xlk calX7_at 287 = some (false, 2, pX7_isBeats, fX7_isBeats) := rfl
theorem c_X7_at_290 : xlk calX7_at 290 = some (false, 1, pX7_begins, fX7_begins) := rfl
theorem c_X7_at_293 : xlk calX7_at 293 = some (false, 2, pX7_go, fX7_go) := rfl
theorem c_X7_at_174 : xlk calX7_at 174 = some (false, 3, pX7_of, fX7_of) := rfl
theorem c_X7_at_296 : xlk calX7_at 296 = some (false, 1, pX7_backAgain, fX7_backAgain) := rfl
set_option maxHeartbeats 4000000 in
set_option maxRecDepth 100000 in
theorem mX7_at : xMet WM yX7_at cX7_at 5 (some .int) 5 pX7_at fX7_at := by
  refine xMet_of (fld := xlk fldX7) (cal := xlk calX7_at) (ks := xlk []) (gs := xlk []) (ro := fun _ => none) 0 (by decide) WM_nd rfl fldX7_ok xKs_nil xGs_nil (Or.inr rfl) (xcal_cons (xCk_V mX7_isWalker 7 (by decide) (by decide) (by decide) rfl (fun as σ h _ => rX7_isWalker as σ h) w_X7_140 ⟨by decide, by decide, by decide +kernel⟩) (xcal_cons (xCk_V mX7_no 7 (by decide) (by decide) (by decide) rfl (fun as σ h _ => rX7_no as σ h) w_X7_136 ⟨by decide, by decide, by decide +kernel⟩) (xcal_cons (xCk_V mX7_isBeats 7 (by decide) (by decide) (by decide) rfl (fun as σ h _ => rX7_isBeats as σ h) w_X7_287 ⟨by decide, by decide, by decide +kernel⟩) (xcal_cons (xCk_V mX7_begins 7 (by decide) (by decide) (by decide) rfl (fun as σ h _ => rX7_begins as σ h) w_X7_290 ⟨by decide, by decide, by decide +kernel⟩) (xcal_cons (xCk_V mX7_go 7 (by decide) (by decide) (by decide) rfl (fun as σ h _ => rX7_go as σ h) w_X7_293 ⟨by decide, by decide, by decide +kernel⟩) (xcal_cons (xCk_V mX7_of 7 (by decide) (by decide) (by decide) rfl (fun as σ h _ => rX7_of as σ h) w_X7_174 ⟨by decide, by decide, by decide +kernel⟩) (xcal_cons (xCk_V mX7_backAgain 7 (by decide) (by decide) (by decide) rfl (fun as σ h _ => rX7_backAgain as σ h) w_X7_296 ⟨by decide, by decide, by decide +kernel⟩) xcal_nil))))))) ?_ ?_
  · rintro av σ ⟨n, x, y, rfl, hpre⟩
    exact Nat.le_of_ble_eq_true rfl
  rintro av σ ⟨n, x, y, rfl, ⟨hp1, hp2, hp3⟩⟩ Rt hR
  have hR2 := hR2_g (Rt := Rt) (F := attM σ n x y) (fun r s' => by rw [hR, fX7_at_e])
  have h6 : 0 ≤ x ∧ x < σ.1 0 1 → 0 ≤ x ∧ tn x < 6 := fun h => ⟨h.1, tn6 h hp2⟩
  refine xgo0 42 ?_
  simp -implicitDefEqProofs only [xwp_2, xwp_0, xwp_1, xws_s, xdd_o, xld_0, xld_s, xs1_0, xs1_1, xs1_s, xs2_0, xs2_1, xs2_s, xlg_n, xlg_i, xlg_r, xlg_z, xlg_l, xf4_0, xf4_1, xf4_2, xf4_3, xgo_e, xcmp_eq, xcmp_ne, xcmp_lt, xcmp_ge, xcmp_gt, xcmp_le, xfg_0, xfg_1, xfg_2, xfg_3, xfg_4, xpop_0, xpop_s, xsw_n, xsw_c, xtb_n, xtb_c, xenp_n, xenp_i, xenp_r, xenp_z, xenp_l, xrep_0, xrep_s, Nat.reduceSub, true_and, and_true, cat_i, cat_r, Nat.reduceAdd, Nat.reduceLT, Nat.reduceLeDiff, Nat.reduceEqDiff, xnc, Int.reduceAdd, Int.reduceSub, Int.reduceNeg, Int.reduceLE, Int.reduceLT, Int.reduceToNat, ↓reduceIte, List.length_cons, List.length_nil, xlc0, xlc1, ite_10, i10, i01, i0_2, i0_3, i0_4, i0_6, i0_7, i0_8, i0_49, i0_10, or_true, true_or, or_false, false_or, not_false_eq_true, not_true_eq_false, xnt, xI_g, eq_self, xI_2, xJ_1, false_and, and_false, obM_t, rMi, vp_tn, tn_def, lgc, nI8, nI6, nI160, nI20, nI401, nI49, aM_6, aM_7, aM_8, aM_9, aM_10, aM_11, aM_12, aM_13, aM_14, aM_15, aM_16, aM_17, aM_18, aM_19, aM_20, aM_21, aM_22, aM_23, aM_24, aM_25, aM_26, aM_27, aM_28, aM_29, aM_30, aM_31, aM_38, aM_39, aM_40, aM_41, aM_42, aM_43, aM_44, aM_45, aM_46, aM_47, lM_6, lM_7, lM_8, lM_9, lM_10, lM_11, lM_12, lM_13, lM_14, lM_15, lM_16, lM_17, lM_18, lM_19, lM_20, lM_21, lM_22, lM_23, lM_24, lM_25, lM_26, lM_27, lM_28, lM_29, lM_30, lM_31, lM_38, lM_39, lM_40, lM_41, lM_42, lM_43, lM_44, lM_45, lM_46, lM_47, dX7_at_0, st_aload_n, dX7_at_1, st_iload_n, dX7_at_2, st_invokevirtual, dX7_at_5, st_ifCond, dX7_at_8, dX7_at_9, st_iconst, dX7_at_10, dX7_at_13, st_ireturn, dX7_at_14, dX7_at_15, dX7_at_18, dX7_at_19, dX7_at_20, st_if_icmp, dX7_at_23, dX7_at_24, st_bipush, dX7_at_26, dX7_at_29, dX7_at_30, dX7_at_31, dX7_at_32, dX7_at_35, dX7_at_38, dX7_at_39, dX7_at_41, dX7_at_44, dX7_at_45, dX7_at_46, dX7_at_49, dX7_at_50, dX7_at_51, dX7_at_54, st_pop, dX7_at_55, dX7_at_56, dX7_at_57, dX7_at_58, dX7_at_61, st_istore, dX7_at_63, dX7_at_64, dX7_at_67, st_iload, dX7_at_69, c_X7_at_140, pX7_isWalker_e, fX7_isWalker_e, Option.toList_some, Option.toList_none, List.cons_append, List.nil_append, c_X7_at_136, pX7_no_e, fX7_no_e, c_X7_at_287, pX7_isBeats_e, fX7_isBeats_e, c_X7_at_290, pX7_begins_e, fX7_begins_e, c_X7_at_293, pX7_go_e, fX7_go_e, c_X7_at_174, pX7_of_e, fX7_of_e, c_X7_at_296, pX7_backAgain_e, fX7_backAgain_e, ofI_m1, ofI_4, ofI_m5, ofI_m6, hp1, hp2, hp3, nbP_1, nbP_2, nbP_3, nbP_4, nbP_5, nbP_6, nbP_7, bgM_k, gbM_k, thM_f]
  clear hR
  simp only [hR2, attM, noM]
  clear hR2 hp3
  generalize thM σ n = T at *
  grind (splits := 40)
theorem rX7_at : ∀ as σ, pX7_at as σ → ∃ K as', as = .ref K :: as' ∧ xob WM K 7 := by
  rintro as σ ⟨n, x, y, rfl, hpre⟩
  exact ⟨_, _, rfl, by first | exact hpre | exact hpre.1 | exact obT hpre | exact obT hpre.1 | exact obS hpre | exact obS hpre.1 | exact obM | exact ob6 | exact ob2 | exact ob0⟩
def pX7_have (as : List Value) (σ : xS) : Prop := ∃ (n : Int32) (g : Int32), as = [.ref 0, .int n, .int g] ∧ ((0 ≤ σ.1 0 1) ∧ (σ.1 0 1 ≤ 6) ∧ (BOK (bgM σ)))
def fX7_have (as : List Value) (σ : xS) : Option Value × xS := match as with
  | [.ref 0, .int n, .int g] => (some (.int (havM σ n g).1), (havM σ n g).2)
  | _ => (none, σ)
theorem pX7_have_e {n : Int32} {g : Int32} {σ : xS} : pX7_have [.ref 0, .int n, .int g] σ = ((0 ≤ σ.1 0 1) ∧ (σ.1 0 1 ≤ 6) ∧ (BOK (bgM σ))) := propext ⟨fun h => by obtain ⟨n, g, e, h⟩ := h; cases e; exact h, fun h => ⟨n, g, rfl, h⟩⟩
theorem fX7_have_e {n : Int32} {g : Int32} {σ : xS} : fX7_have [.ref 0, .int n, .int g] σ = (some (.int (havM σ n g).1), (havM σ n g).2) := rfl
def calX7_have : List (Nat × xCall) := [(161, (false, 2, pX7_isGait, fX7_isGait)), (136, (false, 2, pX7_no, fX7_no)), (287, (false, 2, pX7_isBeats, fX7_isBeats)), (290, (false, 1, pX7_begins, fX7_begins)), (293, (false, 2, pX7_go, fX7_go)), (299, (false, 2, pX7_having, fX7_having)), (296, (false, 1, pX7_backAgain, fX7_backAgain))]
theorem c_X7_have_161 : xlk calX7_have 161 = some (false, 2, pX7_isGait, fX7_isGait) := rfl
theorem c_X7_have_136 : xlk calX7_have 136 = some (false, 2, pX7_no, fX7_no) := rfl
theorem c_X7_have_287 : xlk calX7_have 287 = some (false, 2, pX7_isBeats, fX7_isBeats) := rfl
theorem c_X7_have_290 : xlk calX7_have 290 = some (false, 1, pX7_begins, fX7_begins) := rfl
theorem c_X7_have_293 : xlk calX7_have 293 = some (false, 2, pX7_go, fX7_go) := rfl
theorem c_X7_have_299 : xlk calX7_have 299 = some (false, 2, pX7_having, fX7_having) := rfl
theorem c_X7_have_296 : xlk calX7_have 296 = some (false, 1, pX7_backAgain, fX7_backAgain) := rfl
set_option maxHeartbeats 4000000 in
set_option maxRecDepth 100000 in
theorem mX7_have : xMet WM yX7_have cX7_have 4 (some .int) 5 pX7_have fX7_have := by
  refine xMet_of (fld := xlk fldX7) (cal := xlk calX7_have) (ks := xlk []) (gs := xlk []) (ro := fun _ => none) 0 (by decide) WM_nd rfl fldX7_ok xKs_nil xGs_nil (Or.inr rfl) (xcal_cons (xCk_V mX7_isGait 7 (by decide) (by decide) (by decide) rfl (fun as σ h _ => rX7_isGait as σ h) w_X7_161 ⟨by decide, by decide, by decide +kernel⟩) (xcal_cons (xCk_V mX7_no 7 (by decide) (by decide) (by decide) rfl (fun as σ h _ => rX7_no as σ h) w_X7_136 ⟨by decide, by decide, by decide +kernel⟩) (xcal_cons (xCk_V mX7_isBeats 7 (by decide) (by decide) (by decide) rfl (fun as σ h _ => rX7_isBeats as σ h) w_X7_287 ⟨by decide, by decide, by decide +kernel⟩) (xcal_cons (xCk_V mX7_begins 7 (by decide) (by decide) (by decide) rfl (fun as σ h _ => rX7_begins as σ h) w_X7_290 ⟨by decide, by decide, by decide +kernel⟩) (xcal_cons (xCk_V mX7_go 7 (by decide) (by decide) (by decide) rfl (fun as σ h _ => rX7_go as σ h) w_X7_293 ⟨by decide, by decide, by decide +kernel⟩) (xcal_cons (xCk_V mX7_having 7 (by decide) (by decide) (by decide) rfl (fun as σ h _ => rX7_having as σ h) w_X7_299 ⟨by decide, by decide, by decide +kernel⟩) (xcal_cons (xCk_V mX7_backAgain 7 (by decide) (by decide) (by decide) rfl (fun as σ h _ => rX7_backAgain as σ h) w_X7_296 ⟨by decide, by decide, by decide +kernel⟩) xcal_nil))))))) ?_ ?_
  · rintro av σ ⟨n, g, rfl, hpre⟩
    exact Nat.le_of_ble_eq_true rfl
  rintro av σ ⟨n, g, rfl, ⟨hp1, hp2, hp3⟩⟩ Rt hR
  have hR2 := hR2_g (Rt := Rt) (F := havM σ n g) (fun r s' => by rw [hR, fX7_have_e])
  refine xgo0 32 ?_
  simp -implicitDefEqProofs only [xwp_2, xwp_0, xwp_1, xws_s, xdd_o, xld_0, xld_s, xs1_0, xs1_1, xs1_s, xs2_0, xs2_1, xs2_s, xlg_n, xlg_i, xlg_r, xlg_z, xlg_l, xf4_0, xf4_1, xf4_2, xf4_3, xgo_e, xcmp_eq, xcmp_ne, xcmp_lt, xcmp_ge, xcmp_gt, xcmp_le, xfg_0, xfg_1, xfg_2, xfg_3, xfg_4, xpop_0, xpop_s, xsw_n, xsw_c, xtb_n, xtb_c, xenp_n, xenp_i, xenp_r, xenp_z, xenp_l, xrep_0, xrep_s, Nat.reduceSub, true_and, and_true, cat_i, cat_r, Nat.reduceAdd, Nat.reduceLT, Nat.reduceLeDiff, Nat.reduceEqDiff, xnc, Int.reduceAdd, Int.reduceSub, Int.reduceNeg, Int.reduceLE, Int.reduceLT, Int.reduceToNat, ↓reduceIte, List.length_cons, List.length_nil, xlc0, xlc1, ite_10, i10, i01, i0_2, i0_3, i0_4, i0_6, i0_7, i0_8, i0_49, i0_10, or_true, true_or, or_false, false_or, not_false_eq_true, not_true_eq_false, xnt, xI_g, eq_self, xI_2, xJ_1, false_and, and_false, obM_t, rMi, vp_tn, tn_def, lgc, nI8, nI6, nI160, nI20, nI401, nI49, aM_6, aM_7, aM_8, aM_9, aM_10, aM_11, aM_12, aM_13, aM_14, aM_15, aM_16, aM_17, aM_18, aM_19, aM_20, aM_21, aM_22, aM_23, aM_24, aM_25, aM_26, aM_27, aM_28, aM_29, aM_30, aM_31, aM_38, aM_39, aM_40, aM_41, aM_42, aM_43, aM_44, aM_45, aM_46, aM_47, lM_6, lM_7, lM_8, lM_9, lM_10, lM_11, lM_12, lM_13, lM_14, lM_15, lM_16, lM_17, lM_18, lM_19, lM_20, lM_21, lM_22, lM_23, lM_24, lM_25, lM_26, lM_27, lM_28, lM_29, lM_30, lM_31, lM_38, lM_39, lM_40, lM_41, lM_42, lM_43, lM_44, lM_45, lM_46, lM_47, dX7_have_0, st_aload_n, dX7_have_1, st_iload_n, dX7_have_2, st_invokevirtual, dX7_have_5, st_ifCond, dX7_have_8, dX7_have_9, st_iconst, dX7_have_10, dX7_have_13, st_ireturn, dX7_have_14, dX7_have_15, dX7_have_16, dX7_have_19, dX7_have_22, dX7_have_23, st_bipush, dX7_have_25, dX7_have_28, dX7_have_29, dX7_have_30, dX7_have_33, dX7_have_34, dX7_have_35, dX7_have_38, st_pop, dX7_have_39, dX7_have_40, dX7_have_41, dX7_have_44, st_istore_n, dX7_have_45, dX7_have_46, dX7_have_49, dX7_have_50, c_X7_have_161, pX7_isGait_e, fX7_isGait_e, Option.toList_some, Option.toList_none, List.cons_append, List.nil_append, c_X7_have_136, pX7_no_e, fX7_no_e, c_X7_have_287, pX7_isBeats_e, fX7_isBeats_e, c_X7_have_290, pX7_begins_e, fX7_begins_e, c_X7_have_293, pX7_go_e, fX7_go_e, c_X7_have_299, pX7_having_e, fX7_having_e, c_X7_have_296, pX7_backAgain_e, fX7_backAgain_e, ofI_m1, ofI_m6, hp1, hp2, hp3, nbP_1, nbP_2, nbP_3, nbP_4, nbP_5, nbP_6, nbP_7, bgM_k, gbM_k, thM_f, thM_k]
  clear hR
  simp only [hR2, havM, noM]
  clear hR2 hp3
  generalize thM σ n = T at *
  grind (splits := 40)
theorem rX7_have : ∀ as σ, pX7_have as σ → ∃ K as', as = .ref K :: as' ∧ xob WM K 7 := by
  rintro as σ ⟨n, g, rfl, hpre⟩
  exact ⟨_, _, rfl, by first | exact hpre | exact hpre.1 | exact obT hpre | exact obT hpre.1 | exact obS hpre | exact obS hpre.1 | exact obM | exact ob6 | exact ob2 | exact ob0⟩
def pX7_meetings (as : List Value) (σ : xS) : Prop := ∃ (n : Int32), as = [.ref 0, .int n] ∧ ((0 ≤ σ.1 0 1) ∧ (σ.1 0 1 ≤ 6) ∧ (BOK (bgM σ)))
def fX7_meetings (as : List Value) (σ : xS) : Option Value × xS := match as with
  | [.ref 0, .int n] => (some (.int (mtgM σ n).1), (mtgM σ n).2)
  | _ => (none, σ)
theorem pX7_meetings_e {n : Int32} {σ : xS} : pX7_meetings [.ref 0, .int n] σ = ((0 ≤ σ.1 0 1) ∧ (σ.1 0 1 ≤ 6) ∧ (BOK (bgM σ))) := propext ⟨fun h => by obtain ⟨n, e, h⟩ := h; cases e; exact h, fun h => ⟨n, rfl, h⟩⟩
theorem fX7_meetings_e {n : Int32} {σ : xS} : fX7_meetings [.ref 0, .int n] σ = (some (.int (mtgM σ n).1), (mtgM σ n).2) := rfl
def calX7_meetings : List (Nat × xCall) := [(287, (false, 2, pX7_isBeats, fX7_isBeats)), (136, (false, 2, pX7_no, fX7_no)), (290, (false, 1, pX7_begins, fX7_begins)), (293, (false, 2, pX7_go, fX7_go)), (296, (false, 1, pX7_backAgain, fX7_backAgain))]
theorem c_X7_meetings_287 : xlk calX7_meetings 287 = some (false, 2, pX7_isBeats, fX7_isBeats) := rfl
theorem c_X7_meetings_136 : xlk calX7_meetings 136 = some (false, 2, pX7_no, fX7_no) := rfl
theorem c_X7_meetings_290 : xlk calX7_meetings 290 = some (false, 1, pX7_begins, fX7_begins) := rfl
theorem c_X7_meetings_293 : xlk calX7_meetings 293 = some (false, 2, pX7_go, fX7_go) := rfl
theorem c_X7_meetings_296 : xlk calX7_meetings 296 = some (false, 1, pX7_backAgain, fX7_backAgain) := rfl
set_option maxHeartbeats 4000000 in
set_option maxRecDepth 100000 in
theorem mX7_meetings : xMet WM yX7_meetings cX7_meetings 3 (some .int) 5 pX7_meetings fX7_meetings := by
  refine xMet_of (fld := xlk fldX7) (cal := xlk calX7_meetings) (ks := xlk []) (gs := xlk []) (ro := fun _ => none) 0 (by decide) WM_nd rfl fldX7_ok xKs_nil xGs_nil (Or.inr rfl) (xcal_cons (xCk_V mX7_isBeats 7 (by decide) (by decide) (by decide) rfl (fun as σ h _ => rX7_isBeats as σ h) w_X7_287 ⟨by decide, by decide, by decide +kernel⟩) (xcal_cons (xCk_V mX7_no 7 (by decide) (by decide) (by decide) rfl (fun as σ h _ => rX7_no as σ h) w_X7_136 ⟨by decide, by decide, by decide +kernel⟩) (xcal_cons (xCk_V mX7_begins 7 (by decide) (by decide) (by decide) rfl (fun as σ h _ => rX7_begins as σ h) w_X7_290 ⟨by decide, by decide, by decide +kernel⟩) (xcal_cons (xCk_V mX7_go 7 (by decide) (by decide) (by decide) rfl (fun as σ h _ => rX7_go as σ h) w_X7_293 ⟨by decide, by decide, by decide +kernel⟩) (xcal_cons (xCk_V mX7_backAgain 7 (by decide) (by decide) (by decide) rfl (fun as σ h _ => rX7_backAgain as σ h) w_X7_296 ⟨by decide, by decide, by decide +kernel⟩) xcal_nil))))) ?_ ?_
  · rintro av σ ⟨n, rfl, hpre⟩
    exact Nat.le_of_ble_eq_true rfl
  rintro av σ ⟨n, rfl, ⟨hp1, hp2, hp3⟩⟩ Rt hR
  have hR2 := hR2_g (Rt := Rt) (F := mtgM σ n) (fun r s' => by rw [hR, fX7_meetings_e])
  refine xgo0 20 ?_
  simp -implicitDefEqProofs only [xwp_2, xwp_0, xwp_1, xws_s, xdd_o, xld_0, xld_s, xs1_0, xs1_1, xs1_s, xs2_0, xs2_1, xs2_s, xlg_n, xlg_i, xlg_r, xlg_z, xlg_l, xf4_0, xf4_1, xf4_2, xf4_3, xgo_e, xcmp_eq, xcmp_ne, xcmp_lt, xcmp_ge, xcmp_gt, xcmp_le, xfg_0, xfg_1, xfg_2, xfg_3, xfg_4, xpop_0, xpop_s, xsw_n, xsw_c, xtb_n, xtb_c, xenp_n, xenp_i, xenp_r, xenp_z, xenp_l, xrep_0, xrep_s, Nat.reduceSub, true_and, and_true, cat_i, cat_r, Nat.reduceAdd, Nat.reduceLT, Nat.reduceLeDiff, Nat.reduceEqDiff, xnc, Int.reduceAdd, Int.reduceSub, Int.reduceNeg, Int.reduceLE, Int.reduceLT, Int.reduceToNat, ↓reduceIte, List.length_cons, List.length_nil, xlc0, xlc1, ite_10, i10, i01, i0_2, i0_3, i0_4, i0_6, i0_7, i0_8, i0_49, i0_10, or_true, true_or, or_false, false_or, not_false_eq_true, not_true_eq_false, xnt, xI_g, eq_self, xI_2, xJ_1, false_and, and_false, obM_t, rMi, vp_tn, tn_def, lgc, nI8, nI6, nI160, nI20, nI401, nI49, aM_6, aM_7, aM_8, aM_9, aM_10, aM_11, aM_12, aM_13, aM_14, aM_15, aM_16, aM_17, aM_18, aM_19, aM_20, aM_21, aM_22, aM_23, aM_24, aM_25, aM_26, aM_27, aM_28, aM_29, aM_30, aM_31, aM_38, aM_39, aM_40, aM_41, aM_42, aM_43, aM_44, aM_45, aM_46, aM_47, lM_6, lM_7, lM_8, lM_9, lM_10, lM_11, lM_12, lM_13, lM_14, lM_15, lM_16, lM_17, lM_18, lM_19, lM_20, lM_21, lM_22, lM_23, lM_24, lM_25, lM_26, lM_27, lM_28, lM_29, lM_30, lM_31, lM_38, lM_39, lM_40, lM_41, lM_42, lM_43, lM_44, lM_45, lM_46, lM_47, dX7_meetings_0, st_aload_n, dX7_meetings_1, st_iload_n, dX7_meetings_2, st_invokevirtual, dX7_meetings_5, st_ifCond, dX7_meetings_8, dX7_meetings_9, st_bipush, dX7_meetings_11, dX7_meetings_14, st_ireturn, dX7_meetings_15, dX7_meetings_16, dX7_meetings_19, dX7_meetings_20, dX7_meetings_21, dX7_meetings_24, st_istore_n, dX7_meetings_25, dX7_meetings_26, dX7_meetings_29, dX7_meetings_30, c_X7_meetings_287, pX7_isBeats_e, fX7_isBeats_e, Option.toList_some, Option.toList_none, List.cons_append, List.nil_append, c_X7_meetings_136, pX7_no_e, fX7_no_e, c_X7_meetings_290, pX7_begins_e, fX7_begins_e, c_X7_meetings_293, pX7_go_e, fX7_go_e, c_X7_meetings_296, pX7_backAgain_e, fX7_backAgain_e, ofI_m6, hp1, hp2, hp3, nbP_1, nbP_2, nbP_3, nbP_4, nbP_5, nbP_6, nbP_7, bgM_k, gbM_k, thM_f, thM_k]
  clear hR
  simp only [hR2, mtgM, noM]
  clear hR2 hp3
  generalize thM σ n = T at *
  grind (splits := 40)
theorem rX7_meetings : ∀ as σ, pX7_meetings as σ → ∃ K as', as = .ref K :: as' ∧ xob WM K 7 := by
  rintro as σ ⟨n, rfl, hpre⟩
  exact ⟨_, _, rfl, by first | exact hpre | exact hpre.1 | exact obT hpre | exact obT hpre.1 | exact obS hpre | exact obS hpre.1 | exact obM | exact ob6 | exact ob2 | exact ob0⟩
def pX7_survives (as : List Value) (σ : xS) : Prop := ∃ (n : Int32), as = [.ref 0, .int n] ∧ ((0 ≤ σ.1 0 1) ∧ (σ.1 0 1 ≤ 6) ∧ (BOK (bgM σ)))
def fX7_survives (as : List Value) (σ : xS) : Option Value × xS := match as with
  | [.ref 0, .int n] => (some (.int (surM σ n).1), (surM σ n).2)
  | _ => (none, σ)
theorem pX7_survives_e {n : Int32} {σ : xS} : pX7_survives [.ref 0, .int n] σ = ((0 ≤ σ.1 0 1) ∧ (σ.1 0 1 ≤ 6) ∧ (BOK (bgM σ))) := propext ⟨fun h => by obtain ⟨n, e, h⟩ := h; cases e; exact h, fun h => ⟨n, rfl, h⟩⟩
theorem fX7_survives_e {n : Int32} {σ : xS} : fX7_survives [.ref 0, .int n] σ = (some (.int (surM σ n).1), (surM σ n).2) := rfl
def calX7_survives : List (Nat × xCall) := [(287, (false, 2, pX7_isBeats, fX7_isBeats)), (136, (false, 2, pX7_no, fX7_no)), (290, (false, 1, pX7_begins, fX7_begins)), (293, (false, 2, pX7_go, fX7_go)), (296, (false, 1, pX7_backAgain, fX7_backAgain))]
theorem c_X7_survives_287 : xlk calX7_survives 287 = some (false, 2, pX7_isBeats, fX7_isBeats) := rfl
theorem c_X7_survives_136 : xlk calX7_survives 136 = some (false, 2, pX7_no, fX7_no) := rfl
theorem c_X7_survives_290 : xlk calX7_survives 290 = some (false, 1, pX7_begins, fX7_begins) := rfl
theorem c_X7_survives_293 : xlk calX7_survives 293 = some (false, 2, pX7_go, fX7_go) := rfl
theorem c_X7_survives_296 : xlk calX7_survives 296 = some (false, 1, pX7_backAgain, fX7_backAgain) := rfl
set_option maxHeartbeats 4000000 in
set_option maxRecDepth 100000 in
theorem mX7_survives : xMet WM yX7_survives cX7_survives 4 (some .int) 5 pX7_survives fX7_survives := by
  refine xMet_of (fld := xlk fldX7) (cal := xlk calX7_survives) (ks := xlk []) (gs := xlk []) (ro := fun _ => none) 0 (by decide) WM_nd rfl fldX7_ok xKs_nil xGs_nil (Or.inr rfl) (xcal_cons (xCk_V mX7_isBeats 7 (by decide) (by decide) (by decide) rfl (fun as σ h _ => rX7_isBeats as σ h) w_X7_287 ⟨by decide, by decide, by decide +kernel⟩) (xcal_cons (xCk_V mX7_no 7 (by decide) (by decide) (by decide) rfl (fun as σ h _ => rX7_no as σ h) w_X7_136 ⟨by decide, by decide, by decide +kernel⟩) (xcal_cons (xCk_V mX7_begins 7 (by decide) (by decide) (by decide) rfl (fun as σ h _ => rX7_begins as σ h) w_X7_290 ⟨by decide, by decide, by decide +kernel⟩) (xcal_cons (xCk_V mX7_go 7 (by decide) (by decide) (by decide) rfl (fun as σ h _ => rX7_go as σ h) w_X7_293 ⟨by decide, by decide, by decide +kernel⟩) (xcal_cons (xCk_V mX7_backAgain 7 (by decide) (by decide) (by decide) rfl (fun as σ h _ => rX7_backAgain as σ h) w_X7_296 ⟨by decide, by decide, by decide +kernel⟩) xcal_nil))))) ?_ ?_
  · rintro av σ ⟨n, rfl, hpre⟩
    exact Nat.le_of_ble_eq_true rfl
  rintro av σ ⟨n, rfl, ⟨hp1, hp2, hp3⟩⟩ Rt hR
  have hR2 := hR2_g (Rt := Rt) (F := surM σ n) (fun r s' => by rw [hR, fX7_survives_e])
  have hwk := xwk6 hp2
  clear hR
  by_cases hg : 0 ≤ n ∧ n ≤ 400
  · have g0 : surM σ n = (svM (thM σ n) (tn (σ.1 0 1)), baM (thM σ n)) := by rw [surM, if_neg (fun q => q hg)]
    rw [g0] at hR2
    clear g0
    have h1 : ∀ i, i ≤ tn (σ.1 0 1) → xGo WM 4 (xlk fldX7) (xlk calX7_survives) (xlk []) (xlk []) (fun _ => none) 0 cX7_survives Rt 29 [some (.ref 0), some (.int n), some (.int (svM (thM σ n) i)), some (.int (nI i))] [] (thM σ n) := by
      refine xcount (tn (σ.1 0 1)) (fun i => xGo WM 4 (xlk fldX7) (xlk calX7_survives) (xlk []) (xlk []) (fun _ => none) 0 cX7_survives Rt 29 [some (.ref 0), some (.int n), some (.int (svM (thM σ n) i)), some (.int (nI i))] [] (thM σ n)) (fun i hi ih => ?_)
      have hc := le_nI_tn (i := i) (x := σ.1 0 1) hi
      have e0 : 0 ≤ nI i := nI_pos' (by omega)
      have e1 : nI i + 1 = nI (i + 1) := nI_1 i
      have e2 : tn (nI i) = i := tn_nI (by omega)
      refine xtoCs [(29, xPc (i < tn (σ.1 0 1)) [some (.ref 0), some (.int n), some (.int (svM (thM σ n) (i + 1))), some (.int (nI (i + 1)))] (thM σ n))] (xcs_cons (ih) xcs_nil) 60 (fun cf hcf => ?_)
      have k29 : cf 29 = some (xPc (i < tn (σ.1 0 1)) [some (.ref 0), some (.int n), some (.int (svM (thM σ n) (i + 1))), some (.int (nI (i + 1)))] (thM σ n)) := (hcf 29).trans rfl
      have kn : ∀ pc, ¬ pc = 29 → cf pc = none := fun pc h0 => by rw [hcf, xlk_c, if_neg h0, xlk_n]
      clear hcf
      simp (config := {maxSteps := 4000000, implicitDefEqProofs := false}) only [xwp_2, xwp_0, xwp_1, xws_s, xdd_o, xld_0, xld_s, xs1_0, xs1_1, xs1_s, xs2_0, xs2_1, xs2_s, xlg_n, xlg_i, xlg_r, xlg_z, xlg_l, xf4_0, xf4_1, xf4_2, xf4_3, xgo_e, xcmp_eq, xcmp_ne, xcmp_lt, xcmp_ge, xcmp_gt, xcmp_le, xfg_0, xfg_1, xfg_2, xfg_3, xfg_4, xpop_0, xpop_s, xsw_n, xsw_c, xtb_n, xtb_c, xenp_n, xenp_i, xenp_r, xenp_z, xenp_l, xrep_0, xrep_s, Nat.reduceSub, true_and, and_true, cat_i, cat_r, Nat.reduceAdd, Nat.reduceLT, Nat.reduceLeDiff, Nat.reduceEqDiff, xnc, Int.reduceAdd, Int.reduceSub, Int.reduceNeg, Int.reduceLE, Int.reduceLT, Int.reduceToNat, ↓reduceIte, List.length_cons, List.length_nil, xlc0, xlc1, ite_10, i10, i01, i0_2, i0_3, i0_4, i0_6, i0_7, i0_8, i0_49, i0_10, or_true, true_or, or_false, false_or, not_false_eq_true, not_true_eq_false, xnt, xI_g, eq_self, xI_2, xJ_1, false_and, and_false, obM_t, rMi, vp_tn, tn_def, lgc, nI8, nI6, nI160, nI20, nI401, nI49, aM_6, aM_7, aM_8, aM_9, aM_10, aM_11, aM_12, aM_13, aM_14, aM_15, aM_16, aM_17, aM_18, aM_19, aM_20, aM_21, aM_22, aM_23, aM_24, aM_25, aM_26, aM_27, aM_28, aM_29, aM_30, aM_31, aM_38, aM_39, aM_40, aM_41, aM_42, aM_43, aM_44, aM_45, aM_46, aM_47, lM_6, lM_7, lM_8, lM_9, lM_10, lM_11, lM_12, lM_13, lM_14, lM_15, lM_16, lM_17, lM_18, lM_19, lM_20, lM_21, lM_22, lM_23, lM_24, lM_25, lM_26, lM_27, lM_28, lM_29, lM_30, lM_31, lM_38, lM_39, lM_40, lM_41, lM_42, lM_43, lM_44, lM_45, lM_46, lM_47, dX7_survives_0, st_aload_n, dX7_survives_1, st_iload_n, dX7_survives_2, st_invokevirtual, dX7_survives_5, st_ifCond, dX7_survives_8, dX7_survives_9, st_bipush, dX7_survives_11, dX7_survives_14, st_ireturn, dX7_survives_15, dX7_survives_16, dX7_survives_19, dX7_survives_20, dX7_survives_21, dX7_survives_24, st_pop, dX7_survives_25, st_iconst, dX7_survives_26, st_istore_n, dX7_survives_27, dX7_survives_28, dX7_survives_29, dX7_survives_30, dX7_survives_31, st_getfield, fl_X7_126, dX7_survives_34, st_if_icmp, dX7_survives_37, dX7_survives_38, dX7_survives_39, dX7_survives_40, fl_X7_44, dX7_survives_43, dX7_survives_44, st_iaload, dX7_survives_45, st_ishl, dX7_survives_46, st_ior, dX7_survives_47, dX7_survives_48, st_iinc, dX7_survives_51, st_goto, dX7_survives_54, dX7_survives_55, dX7_survives_58, dX7_survives_59, c_X7_survives_287, pX7_isBeats_e, fX7_isBeats_e, Option.toList_some, Option.toList_none, List.cons_append, List.nil_append, c_X7_survives_136, pX7_no_e, fX7_no_e, c_X7_survives_290, pX7_begins_e, fX7_begins_e, c_X7_survives_293, pX7_go_e, fX7_go_e, c_X7_survives_296, pX7_backAgain_e, fX7_backAgain_e, ofI_m6, ofI_0, ofJ_1, hp1, hp2, hp3, xwp_s, xcu_s, xcu_n, xPc_e, xsub_0, xsub_n, xsub_s, k29, kn, hc, e0, e1, e2, thM_k]
      have fin : tn (σ.1 0 1) ≤ i → i = tn (σ.1 0 1) := fun h => by omega
      rw [svM_s]
      simp only [hR2]
      clear hR2 hc ih
      refine ⟨fun h => ?_, fun h => ?_⟩
      · rw [← fin (by omega)]
      · have h6 : i < 6 := by omega
        have h7 : i < tn (σ.1 0 1) := by omega
        simp only [h6, h7, and_self]
    refine xtoC [(29, xPc (True) [some (.ref 0), some (.int n), some (.int (svM (thM σ n) 0)), some (.int (nI 0))] (thM σ n))] (xcs_cons (fun _ => h1 0 (Nat.zero_le _)) xcs_nil) 30 (fun cf hcf => ?_)
    have k29 : cf 29 = some (xPc (True) [some (.ref 0), some (.int n), some (.int (svM (thM σ n) 0)), some (.int (nI 0))] (thM σ n)) := (hcf 29).trans rfl
    have kn : ∀ pc, ¬ pc = 29 → cf pc = none := fun pc h0 => by rw [hcf, xlk_c, if_neg h0, xlk_n]
    clear hcf
    simp (config := {maxSteps := 4000000, implicitDefEqProofs := false}) only [xwp_2, xwp_0, xwp_1, xws_s, xdd_o, xld_0, xld_s, xs1_0, xs1_1, xs1_s, xs2_0, xs2_1, xs2_s, xlg_n, xlg_i, xlg_r, xlg_z, xlg_l, xf4_0, xf4_1, xf4_2, xf4_3, xgo_e, xcmp_eq, xcmp_ne, xcmp_lt, xcmp_ge, xcmp_gt, xcmp_le, xfg_0, xfg_1, xfg_2, xfg_3, xfg_4, xpop_0, xpop_s, xsw_n, xsw_c, xtb_n, xtb_c, xenp_n, xenp_i, xenp_r, xenp_z, xenp_l, xrep_0, xrep_s, Nat.reduceSub, true_and, and_true, cat_i, cat_r, Nat.reduceAdd, Nat.reduceLT, Nat.reduceLeDiff, Nat.reduceEqDiff, xnc, Int.reduceAdd, Int.reduceSub, Int.reduceNeg, Int.reduceLE, Int.reduceLT, Int.reduceToNat, ↓reduceIte, List.length_cons, List.length_nil, xlc0, xlc1, ite_10, i10, i01, i0_2, i0_3, i0_4, i0_6, i0_7, i0_8, i0_49, i0_10, or_true, true_or, or_false, false_or, not_false_eq_true, not_true_eq_false, xnt, xI_g, eq_self, xI_2, xJ_1, false_and, and_false, obM_t, rMi, vp_tn, tn_def, lgc, nI8, nI6, nI160, nI20, nI401, nI49, aM_6, aM_7, aM_8, aM_9, aM_10, aM_11, aM_12, aM_13, aM_14, aM_15, aM_16, aM_17, aM_18, aM_19, aM_20, aM_21, aM_22, aM_23, aM_24, aM_25, aM_26, aM_27, aM_28, aM_29, aM_30, aM_31, aM_38, aM_39, aM_40, aM_41, aM_42, aM_43, aM_44, aM_45, aM_46, aM_47, lM_6, lM_7, lM_8, lM_9, lM_10, lM_11, lM_12, lM_13, lM_14, lM_15, lM_16, lM_17, lM_18, lM_19, lM_20, lM_21, lM_22, lM_23, lM_24, lM_25, lM_26, lM_27, lM_28, lM_29, lM_30, lM_31, lM_38, lM_39, lM_40, lM_41, lM_42, lM_43, lM_44, lM_45, lM_46, lM_47, dX7_survives_0, st_aload_n, dX7_survives_1, st_iload_n, dX7_survives_2, st_invokevirtual, dX7_survives_5, st_ifCond, dX7_survives_8, dX7_survives_9, st_bipush, dX7_survives_11, dX7_survives_14, st_ireturn, dX7_survives_15, dX7_survives_16, dX7_survives_19, dX7_survives_20, dX7_survives_21, dX7_survives_24, st_pop, dX7_survives_25, st_iconst, dX7_survives_26, st_istore_n, dX7_survives_27, dX7_survives_28, dX7_survives_29, dX7_survives_30, dX7_survives_31, st_getfield, fl_X7_126, dX7_survives_34, st_if_icmp, dX7_survives_37, dX7_survives_38, dX7_survives_39, dX7_survives_40, fl_X7_44, dX7_survives_43, dX7_survives_44, st_iaload, dX7_survives_45, st_ishl, dX7_survives_46, st_ior, dX7_survives_47, dX7_survives_48, st_iinc, dX7_survives_51, st_goto, dX7_survives_54, dX7_survives_55, dX7_survives_58, dX7_survives_59, c_X7_survives_287, pX7_isBeats_e, fX7_isBeats_e, Option.toList_some, Option.toList_none, List.cons_append, List.nil_append, c_X7_survives_136, pX7_no_e, fX7_no_e, c_X7_survives_290, pX7_begins_e, fX7_begins_e, c_X7_survives_293, pX7_go_e, fX7_go_e, c_X7_survives_296, pX7_backAgain_e, fX7_backAgain_e, ofI_m6, ofI_0, ofJ_1, hp1, hp2, hp3, xwp_s, xcu_s, xcu_n, xPc_e, xsub_0, xsub_n, xsub_s, k29, kn, nI_00, svM_0, hg, nbP_1, nbP_2, nbP_3, nbP_4, nbP_5, nbP_6, nbP_7, bgM_k, gbM_k, thM_f]
    simp
  · refine xtoN [(29, fun _ _ _ => False)] (fun q hq L st s hp => by simp only [List.mem_singleton] at hq; subst hq; exact hp.elim) 30 ?_
    simp -implicitDefEqProofs only [xwp_2, xwp_0, xwp_1, xws_s, xdd_o, xld_0, xld_s, xs1_0, xs1_1, xs1_s, xs2_0, xs2_1, xs2_s, xlg_n, xlg_i, xlg_r, xlg_z, xlg_l, xf4_0, xf4_1, xf4_2, xf4_3, xgo_e, xcmp_eq, xcmp_ne, xcmp_lt, xcmp_ge, xcmp_gt, xcmp_le, xfg_0, xfg_1, xfg_2, xfg_3, xfg_4, xpop_0, xpop_s, xsw_n, xsw_c, xtb_n, xtb_c, xenp_n, xenp_i, xenp_r, xenp_z, xenp_l, xrep_0, xrep_s, Nat.reduceSub, true_and, and_true, cat_i, cat_r, Nat.reduceAdd, Nat.reduceLT, Nat.reduceLeDiff, Nat.reduceEqDiff, xnc, Int.reduceAdd, Int.reduceSub, Int.reduceNeg, Int.reduceLE, Int.reduceLT, Int.reduceToNat, ↓reduceIte, List.length_cons, List.length_nil, xlc0, xlc1, ite_10, i10, i01, i0_2, i0_3, i0_4, i0_6, i0_7, i0_8, i0_49, i0_10, or_true, true_or, or_false, false_or, not_false_eq_true, not_true_eq_false, xnt, xI_g, eq_self, xI_2, xJ_1, false_and, and_false, obM_t, rMi, vp_tn, tn_def, lgc, nI8, nI6, nI160, nI20, nI401, nI49, aM_6, aM_7, aM_8, aM_9, aM_10, aM_11, aM_12, aM_13, aM_14, aM_15, aM_16, aM_17, aM_18, aM_19, aM_20, aM_21, aM_22, aM_23, aM_24, aM_25, aM_26, aM_27, aM_28, aM_29, aM_30, aM_31, aM_38, aM_39, aM_40, aM_41, aM_42, aM_43, aM_44, aM_45, aM_46, aM_47, lM_6, lM_7, lM_8, lM_9, lM_10, lM_11, lM_12, lM_13, lM_14, lM_15, lM_16, lM_17, lM_18, lM_19, lM_20, lM_21, lM_22, lM_23, lM_24, lM_25, lM_26, lM_27, lM_28, lM_29, lM_30, lM_31, lM_38, lM_39, lM_40, lM_41, lM_42, lM_43, lM_44, lM_45, lM_46, lM_47, dX7_survives_0, st_aload_n, dX7_survives_1, st_iload_n, dX7_survives_2, st_invokevirtual, dX7_survives_5, st_ifCond, dX7_survives_8, dX7_survives_9, st_bipush, dX7_survives_11, dX7_survives_14, st_ireturn, dX7_survives_15, dX7_survives_16, dX7_survives_19, dX7_survives_20, dX7_survives_21, dX7_survives_24, st_pop, dX7_survives_25, st_iconst, dX7_survives_26, st_istore_n, dX7_survives_27, dX7_survives_28, dX7_survives_29, dX7_survives_30, dX7_survives_31, st_getfield, fl_X7_126, dX7_survives_34, st_if_icmp, dX7_survives_37, dX7_survives_38, dX7_survives_39, dX7_survives_40, fl_X7_44, dX7_survives_43, dX7_survives_44, st_iaload, dX7_survives_45, st_ishl, dX7_survives_46, st_ior, dX7_survives_47, dX7_survives_48, st_iinc, dX7_survives_51, st_goto, dX7_survives_54, dX7_survives_55, dX7_survives_58, dX7_survives_59, c_X7_survives_287, pX7_isBeats_e, fX7_isBeats_e, Option.toList_some, Option.toList_none, List.cons_append, List.nil_append, c_X7_survives_136, pX7_no_e, fX7_no_e, c_X7_survives_290, pX7_begins_e, fX7_begins_e, c_X7_survives_293, pX7_go_e, fX7_go_e, c_X7_survives_296, pX7_backAgain_e, fX7_backAgain_e, ofI_m6, ofI_0, ofJ_1, hp1, hp2, hp3, xwp_L, xlk_c, xlk_n, xcu_s, xcu_n, hg, nbP_1, nbP_2, nbP_3, nbP_4, nbP_5, nbP_6, nbP_7]
    simp only [hR2, surM, noM, hg]
    simp
theorem rX7_survives : ∀ as σ, pX7_survives as σ → ∃ K as', as = .ref K :: as' ∧ xob WM K 7 := by
  rintro as σ ⟨n, rfl, hpre⟩
  exact ⟨_, _, rfl, by first | exact hpre | exact hpre.1 | exact obT hpre | exact obT hpre.1 | exact obS hpre | exact obS hpre.1 | exact obM | exact ob6 | exact ob2 | exact ob0⟩
