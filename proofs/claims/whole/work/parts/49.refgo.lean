def pX7_draw (as : List Value) (σ : xS) : Prop := ∃ (n : Int32), as = [.ref 0, .int n] ∧ (¬ n = 0)
def fX7_draw (as : List Value) (σ : xS) : Option Value × xS := match as with
  | [.ref 0, .int n] => (some (.int (xrem (xushr (sdN (σ.1 0 4)) 16) n)), xI σ 0 4 (sdN (σ.1 0 4)))
  | _ => (none, σ)
theorem pX7_draw_e {n : Int32} {σ : xS} : pX7_draw [.ref 0, .int n] σ = (¬ n = 0) := propext ⟨fun h => by obtain ⟨n, e, h⟩ := h; cases e; exact h, fun h => ⟨n, rfl, h⟩⟩
theorem fX7_draw_e {n : Int32} {σ : xS} : fX7_draw [.ref 0, .int n] σ = (some (.int (xrem (xushr (sdN (σ.1 0 4)) 16) n)), xI σ 0 4 (sdN (σ.1 0 4))) := rfl
def calX7_draw : List (Nat × xCall) := []
set_option maxHeartbeats 4000000 in
set_option maxRecDepth 100000 in
theorem mX7_draw : xMet WM yX7_draw cX7_draw 2 (some .int) 1 pX7_draw fX7_draw := by
  refine xMet_of (fld := xlk fldX7) (cal := xlk calX7_draw) (ks := xlk ksX7) (gs := xlk []) (ro := fun _ => none) 0 (by decide) WM_nd rfl fldX7_ok ksX7_ok xGs_nil (Or.inr rfl) xcal_nil ?_ ?_
  · rintro av σ ⟨n, rfl, hpre⟩
    exact Nat.le_of_ble_eq_true rfl
  rintro av σ ⟨n, rfl, hp1⟩ Rt hR
  refine xgo0 17 ?_
  simp -implicitDefEqProofs only [xwp_2, xwp_0, xwp_1, xws_s, xdd_o, xld_0, xld_s, xs1_0, xs1_1, xs1_s, xs2_0, xs2_1, xs2_s, xlg_n, xlg_i, xlg_r, xlg_z, xlg_l, xf4_0, xf4_1, xf4_2, xf4_3, xgo_e, xcmp_eq, xcmp_ne, xcmp_lt, xcmp_ge, xcmp_gt, xcmp_le, xfg_0, xfg_1, xfg_2, xfg_3, xfg_4, xpop_0, xpop_s, xsw_n, xsw_c, xtb_n, xtb_c, xenp_n, xenp_i, xenp_r, xenp_z, xenp_l, xrep_0, xrep_s, Nat.reduceSub, true_and, and_true, cat_i, cat_r, Nat.reduceAdd, Nat.reduceLT, Nat.reduceLeDiff, Nat.reduceEqDiff, xnc, Int.reduceAdd, Int.reduceSub, Int.reduceNeg, Int.reduceLE, Int.reduceLT, Int.reduceToNat, ↓reduceIte, List.length_cons, List.length_nil, xlc0, xlc1, ite_10, i10, i01, i0_2, i0_3, i0_4, i0_6, i0_7, i0_8, i0_49, i0_10, or_true, true_or, or_false, false_or, not_false_eq_true, not_true_eq_false, xnt, xI_g, eq_self, xI_2, xJ_1, false_and, and_false, obM_t, rMi, vp_tn, tn_def, lgc, nI8, nI6, nI160, nI20, nI401, nI49, aM_6, aM_7, aM_8, aM_9, aM_10, aM_11, aM_12, aM_13, aM_14, aM_15, aM_16, aM_17, aM_18, aM_19, aM_20, aM_21, aM_22, aM_23, aM_24, aM_25, aM_26, aM_27, aM_28, aM_29, aM_30, aM_31, aM_38, aM_39, aM_40, aM_41, aM_42, aM_43, aM_44, aM_45, aM_46, aM_47, lM_6, lM_7, lM_8, lM_9, lM_10, lM_11, lM_12, lM_13, lM_14, lM_15, lM_16, lM_17, lM_18, lM_19, lM_20, lM_21, lM_22, lM_23, lM_24, lM_25, lM_26, lM_27, lM_28, lM_29, lM_30, lM_31, lM_38, lM_39, lM_40, lM_41, lM_42, lM_43, lM_44, lM_45, lM_46, lM_47, dX7_draw_0, st_aload_n, dX7_draw_1, dX7_draw_2, st_getfield, fl_X7_7, dX7_draw_5, st_ldc_w, ks_X7_326, dX7_draw_8, st_imul, dX7_draw_9, st_sipush, dX7_draw_12, st_iadd, dX7_draw_13, st_putfield, dX7_draw_16, dX7_draw_17, dX7_draw_20, st_bipush, dX7_draw_22, st_iushr, dX7_draw_23, st_iload_n, dX7_draw_24, st_irem, dX7_draw_25, st_ireturn, ofI_12345, ofI_16, hp1]
  simp only [hR, fX7_draw_e, sdN, and_self]
theorem rX7_draw : ∀ as σ, pX7_draw as σ → ∃ K as', as = .ref K :: as' ∧ xob WM K 7 := by
  rintro as σ ⟨n, rfl, hpre⟩
  exact ⟨_, _, rfl, by first | exact hpre | exact hpre.1 | exact obT hpre | exact obT hpre.1 | exact obS hpre | exact obS hpre.1 | exact obM | exact ob6 | exact ob2 | exact ob0⟩
/-- shelves of him who goes -/
def geM : Nat → xS → xS
  | 0, σ => σ
  | i + 1, σ => if (geM i σ).1 23 i = 2 ∧ (geM i σ).1 26 i = σ.1 0 1 then xI (geM i σ) 23 i 0 else geM i σ
theorem geM_s {i : Nat} {σ : xS} : geM (i + 1) σ = if (geM i σ).1 23 i = 2 ∧ (geM i σ).1 26 i = σ.1 0 1 then xI (geM i σ) 23 i 0 else geM i σ := rfl
theorem geM_0 {σ : xS} : geM 0 σ = σ := rfl
theorem geM_k {σ : xS} {b : Nat} : ∀ {i : Nat}, (geM i σ).1 0 b = σ.1 0 b
  | 0 => rfl
  | i + 1 => by
    rw [geM_s]
    split
    · rw [xI_n (by omega)]; exact geM_k
    · exact geM_k
def goeM (σ : xS) : Int32 × xS := if σ.1 0 1 = 0 then noM σ (-6) else (σ.1 0 1 - 1, geM 8 (xI σ 0 1 (σ.1 0 1 - 1)))
def pX7_goes (as : List Value) (σ : xS) : Prop := as = [.ref 0] ∧ (True)
def fX7_goes (as : List Value) (σ : xS) : Option Value × xS := match as with
  | [.ref 0] => (some (.int (goeM σ).1), (goeM σ).2)
  | _ => (none, σ)
theorem pX7_goes_e {σ : xS} : pX7_goes [.ref 0] σ = (True) := propext ⟨fun h => h.2, fun h => ⟨rfl, h⟩⟩
theorem fX7_goes_e  {σ : xS} : fX7_goes [.ref 0] σ = (some (.int (goeM σ).1), (goeM σ).2) := rfl
def calX7_goes : List (Nat × xCall) := [(136, (false, 2, pX7_no, fX7_no))]
theorem c_X7_goes_136 : xlk calX7_goes 136 = some (false, 2, pX7_no, fX7_no) := rfl
set_option maxHeartbeats 4000000 in
set_option maxRecDepth 100000 in
theorem mX7_goes : xMet WM yX7_goes cX7_goes 2 (some .int) 2 pX7_goes fX7_goes := by
  refine xMet_of (fld := xlk fldX7) (cal := xlk calX7_goes) (ks := xlk []) (gs := xlk []) (ro := fun _ => none) 0 (by decide) WM_nd rfl fldX7_ok xKs_nil xGs_nil (Or.inr rfl) (xcal_cons (xCk_V mX7_no 7 (by decide) (by decide) (by decide) rfl (fun as σ h _ => rX7_no as σ h) w_X7_136 ⟨by decide, by decide, by decide +kernel⟩) xcal_nil) ?_ ?_
  · rintro av σ ⟨rfl, hpre⟩
    exact Nat.le_of_ble_eq_true rfl
  rintro av σ ⟨rfl, hp1⟩ Rt hR
  have hR2 := hR2_g (Rt := Rt) (F := goeM σ) (fun r s' => by rw [hR, fX7_goes_e])
  clear hR
  by_cases hz : σ.1 0 1 = 0
  · refine xtoN [(15, fun _ _ _ => False)] (fun q hq L st s hp => by simp only [List.mem_singleton] at hq; subst hq; exact hp.elim) 14 ?_
    simp -implicitDefEqProofs only [xwp_2, xwp_0, xwp_1, xws_s, xdd_o, xld_0, xld_s, xs1_0, xs1_1, xs1_s, xs2_0, xs2_1, xs2_s, xlg_n, xlg_i, xlg_r, xlg_z, xlg_l, xf4_0, xf4_1, xf4_2, xf4_3, xgo_e, xcmp_eq, xcmp_ne, xcmp_lt, xcmp_ge, xcmp_gt, xcmp_le, xfg_0, xfg_1, xfg_2, xfg_3, xfg_4, xpop_0, xpop_s, xsw_n, xsw_c, xtb_n, xtb_c, xenp_n, xenp_i, xenp_r, xenp_z, xenp_l, xrep_0, xrep_s, Nat.reduceSub, true_and, and_true, cat_i, cat_r, Nat.reduceAdd, Nat.reduceLT, Nat.reduceLeDiff, Nat.reduceEqDiff, xnc, Int.reduceAdd, Int.reduceSub, Int.reduceNeg, Int.reduceLE, Int.reduceLT, Int.reduceToNat, ↓reduceIte, List.length_cons, List.length_nil, xlc0, xlc1, ite_10, i10, i01, i0_2, i0_3, i0_4, i0_6, i0_7, i0_8, i0_49, i0_10, or_true, true_or, or_false, false_or, not_false_eq_true, not_true_eq_false, xnt, xI_g, eq_self, xI_2, xJ_1, false_and, and_false, obM_t, rMi, vp_tn, tn_def, lgc, nI8, nI6, nI160, nI20, nI401, nI49, aM_6, aM_7, aM_8, aM_9, aM_10, aM_11, aM_12, aM_13, aM_14, aM_15, aM_16, aM_17, aM_18, aM_19, aM_20, aM_21, aM_22, aM_23, aM_24, aM_25, aM_26, aM_27, aM_28, aM_29, aM_30, aM_31, aM_38, aM_39, aM_40, aM_41, aM_42, aM_43, aM_44, aM_45, aM_46, aM_47, lM_6, lM_7, lM_8, lM_9, lM_10, lM_11, lM_12, lM_13, lM_14, lM_15, lM_16, lM_17, lM_18, lM_19, lM_20, lM_21, lM_22, lM_23, lM_24, lM_25, lM_26, lM_27, lM_28, lM_29, lM_30, lM_31, lM_38, lM_39, lM_40, lM_41, lM_42, lM_43, lM_44, lM_45, lM_46, lM_47, dX7_goes_0, st_aload_n, dX7_goes_1, st_getfield, fl_X7_126, dX7_goes_4, st_ifCond, dX7_goes_7, dX7_goes_8, st_bipush, dX7_goes_10, st_invokevirtual, dX7_goes_13, st_ireturn, dX7_goes_14, dX7_goes_15, st_dup, dX7_goes_16, dX7_goes_19, st_iconst, dX7_goes_20, st_isub, dX7_goes_21, st_putfield, dX7_goes_24, dX7_goes_25, st_istore_n, dX7_goes_26, st_iload_n, dX7_goes_27, dX7_goes_29, st_if_icmp, dX7_goes_32, dX7_goes_33, fl_X7_68, dX7_goes_36, dX7_goes_37, st_iaload, dX7_goes_38, dX7_goes_39, dX7_goes_42, dX7_goes_43, fl_X7_77, dX7_goes_46, dX7_goes_47, dX7_goes_48, dX7_goes_49, dX7_goes_52, dX7_goes_55, dX7_goes_56, dX7_goes_59, dX7_goes_60, dX7_goes_61, st_iastore, dX7_goes_62, st_iinc, dX7_goes_65, st_goto, dX7_goes_68, dX7_goes_69, dX7_goes_72, c_X7_goes_136, pX7_no_e, fX7_no_e, Option.toList_some, Option.toList_none, List.cons_append, List.nil_append, ofI_m6, ofJ_1, ofI_0, ofI_8, ofJ_2, hp1, xwp_L, xlk_c, xlk_n, xcu_s, xcu_n, hz, nbP_1, nbP_2, nbP_3, nbP_4, nbP_5, nbP_6, nbP_7]
    simp [hR2, goeM, noM, hz]
  · have g0 : goeM σ = (σ.1 0 1 - 1, geM 8 (xI σ 0 1 (σ.1 0 1 - 1))) := by rw [goeM, if_neg hz]
    rw [g0] at hR2
    clear g0
    have hT0 : (xI σ 0 1 (σ.1 0 1 - 1)).1 0 1 = σ.1 0 1 - 1 := xI_s
    generalize hT : xI σ 0 1 (σ.1 0 1 - 1) = T at *
    have h1 : ∀ i, i ≤ 8 → xGo WM 2 (xlk fldX7) (xlk calX7_goes) (xlk []) (xlk []) (fun _ => none) 0 cX7_goes Rt 26 [some (.ref 0), some (.int (nI i))] [] (geM i T) := by
      refine xcount (8) (fun i => xGo WM 2 (xlk fldX7) (xlk calX7_goes) (xlk []) (xlk []) (fun _ => none) 0 cX7_goes Rt 26 [some (.ref 0), some (.int (nI i))] [] (geM i T)) (fun i hi ih => ?_)
      have hc : (8 : Int32) ≤ nI i ↔ 8 ≤ i := nI_leI (a := 8) (by omega) (by omega)
      have e0 : 0 ≤ nI i := nI_pos' (by omega)
      have e1 : nI i + 1 = nI (i + 1) := nI_1 i
      have e2 : tn (nI i) = i := tn_nI (by omega)
      refine xtoCs [(26, xPc (i < 8) [some (.ref 0), some (.int (nI (i + 1)))] (geM (i + 1) T))] (xcs_cons (ih) xcs_nil) 34 (fun cf hcf => ?_)
      have k26 : cf 26 = some (xPc (i < 8) [some (.ref 0), some (.int (nI (i + 1)))] (geM (i + 1) T)) := (hcf 26).trans rfl
      have kn : ∀ pc, ¬ pc = 26 → cf pc = none := fun pc h0 => by rw [hcf, xlk_c, if_neg h0, xlk_n]
      clear hcf
      simp (config := {maxSteps := 4000000, implicitDefEqProofs := false}) only [xwp_2, xwp_0, xwp_1, xws_s, xdd_o, xld_0, xld_s, xs1_0, xs1_1, xs1_s, xs2_0, xs2_1, xs2_s, xlg_n, xlg_i, xlg_r, xlg_z, xlg_l, xf4_0, xf4_1, xf4_2, xf4_3, xgo_e, xcmp_eq, xcmp_ne, xcmp_lt, xcmp_ge, xcmp_gt, xcmp_le, xfg_0, xfg_1, xfg_2, xfg_3, xfg_4, xpop_0, xpop_s, xsw_n, xsw_c, xtb_n, xtb_c, xenp_n, xenp_i, xenp_r, xenp_z, xenp_l, xrep_0, xrep_s, Nat.reduceSub, true_and, and_true, cat_i, cat_r, Nat.reduceAdd, Nat.reduceLT, Nat.reduceLeDiff, Nat.reduceEqDiff, xnc, Int.reduceAdd, Int.reduceSub, Int.reduceNeg, Int.reduceLE, Int.reduceLT, Int.reduceToNat, ↓reduceIte, List.length_cons, List.length_nil, xlc0, xlc1, ite_10, i10, i01, i0_2, i0_3, i0_4, i0_6, i0_7, i0_8, i0_49, i0_10, or_true, true_or, or_false, false_or, not_false_eq_true, not_true_eq_false, xnt, xI_g, eq_self, xI_2, xJ_1, false_and, and_false, obM_t, rMi, vp_tn, tn_def, lgc, nI8, nI6, nI160, nI20, nI401, nI49, aM_6, aM_7, aM_8, aM_9, aM_10, aM_11, aM_12, aM_13, aM_14, aM_15, aM_16, aM_17, aM_18, aM_19, aM_20, aM_21, aM_22, aM_23, aM_24, aM_25, aM_26, aM_27, aM_28, aM_29, aM_30, aM_31, aM_38, aM_39, aM_40, aM_41, aM_42, aM_43, aM_44, aM_45, aM_46, aM_47, lM_6, lM_7, lM_8, lM_9, lM_10, lM_11, lM_12, lM_13, lM_14, lM_15, lM_16, lM_17, lM_18, lM_19, lM_20, lM_21, lM_22, lM_23, lM_24, lM_25, lM_26, lM_27, lM_28, lM_29, lM_30, lM_31, lM_38, lM_39, lM_40, lM_41, lM_42, lM_43, lM_44, lM_45, lM_46, lM_47, dX7_goes_0, st_aload_n, dX7_goes_1, st_getfield, fl_X7_126, dX7_goes_4, st_ifCond, dX7_goes_7, dX7_goes_8, st_bipush, dX7_goes_10, st_invokevirtual, dX7_goes_13, st_ireturn, dX7_goes_14, dX7_goes_15, st_dup, dX7_goes_16, dX7_goes_19, st_iconst, dX7_goes_20, st_isub, dX7_goes_21, st_putfield, dX7_goes_24, dX7_goes_25, st_istore_n, dX7_goes_26, st_iload_n, dX7_goes_27, dX7_goes_29, st_if_icmp, dX7_goes_32, dX7_goes_33, fl_X7_68, dX7_goes_36, dX7_goes_37, st_iaload, dX7_goes_38, dX7_goes_39, dX7_goes_42, dX7_goes_43, fl_X7_77, dX7_goes_46, dX7_goes_47, dX7_goes_48, dX7_goes_49, dX7_goes_52, dX7_goes_55, dX7_goes_56, dX7_goes_59, dX7_goes_60, dX7_goes_61, st_iastore, dX7_goes_62, st_iinc, dX7_goes_65, st_goto, dX7_goes_68, dX7_goes_69, dX7_goes_72, c_X7_goes_136, pX7_no_e, fX7_no_e, Option.toList_some, Option.toList_none, List.cons_append, List.nil_append, ofI_m6, ofJ_1, ofI_0, ofI_8, ofJ_2, hp1, xwp_s, xcu_s, xcu_n, xPc_e, xsub_0, xsub_n, xsub_s, k26, kn, hc, e0, e1, e2, geM_k, hT0]
      have fin : 8 ≤ i → geM i T = geM 8 T := fun h => by rw [show i = 8 by omega]
      have h8 : ¬ 8 ≤ i → i < 8 := fun h => by omega
      rw [geM_s]
      simp only [hR2, hT0]
      clear hR2 hc ih hT
      generalize geM 8 T = Z at *
      generalize geM i T = U at *
      grind (splits := 40)
    refine xtoC [(26, xPc (True) [some (.ref 0), some (.int (nI 0))] (geM 0 T))] (xcs_cons (fun _ => h1 0 (Nat.zero_le _)) xcs_nil) 16 (fun cf hcf => ?_)
    have k26 : cf 26 = some (xPc (True) [some (.ref 0), some (.int (nI 0))] (geM 0 T)) := (hcf 26).trans rfl
    have kn : ∀ pc, ¬ pc = 26 → cf pc = none := fun pc h0 => by rw [hcf, xlk_c, if_neg h0, xlk_n]
    clear hcf
    simp (config := {maxSteps := 4000000, implicitDefEqProofs := false}) only [xwp_2, xwp_0, xwp_1, xws_s, xdd_o, xld_0, xld_s, xs1_0, xs1_1, xs1_s, xs2_0, xs2_1, xs2_s, xlg_n, xlg_i, xlg_r, xlg_z, xlg_l, xf4_0, xf4_1, xf4_2, xf4_3, xgo_e, xcmp_eq, xcmp_ne, xcmp_lt, xcmp_ge, xcmp_gt, xcmp_le, xfg_0, xfg_1, xfg_2, xfg_3, xfg_4, xpop_0, xpop_s, xsw_n, xsw_c, xtb_n, xtb_c, xenp_n, xenp_i, xenp_r, xenp_z, xenp_l, xrep_0, xrep_s, Nat.reduceSub, true_and, and_true, cat_i, cat_r, Nat.reduceAdd, Nat.reduceLT, Nat.reduceLeDiff, Nat.reduceEqDiff, xnc, Int.reduceAdd, Int.reduceSub, Int.reduceNeg, Int.reduceLE, Int.reduceLT, Int.reduceToNat, ↓reduceIte, List.length_cons, List.length_nil, xlc0, xlc1, ite_10, i10, i01, i0_2, i0_3, i0_4, i0_6, i0_7, i0_8, i0_49, i0_10, or_true, true_or, or_false, false_or, not_false_eq_true, not_true_eq_false, xnt, xI_g, eq_self, xI_2, xJ_1, false_and, and_false, obM_t, rMi, vp_tn, tn_def, lgc, nI8, nI6, nI160, nI20, nI401, nI49, aM_6, aM_7, aM_8, aM_9, aM_10, aM_11, aM_12, aM_13, aM_14, aM_15, aM_16, aM_17, aM_18, aM_19, aM_20, aM_21, aM_22, aM_23, aM_24, aM_25, aM_26, aM_27, aM_28, aM_29, aM_30, aM_31, aM_38, aM_39, aM_40, aM_41, aM_42, aM_43, aM_44, aM_45, aM_46, aM_47, lM_6, lM_7, lM_8, lM_9, lM_10, lM_11, lM_12, lM_13, lM_14, lM_15, lM_16, lM_17, lM_18, lM_19, lM_20, lM_21, lM_22, lM_23, lM_24, lM_25, lM_26, lM_27, lM_28, lM_29, lM_30, lM_31, lM_38, lM_39, lM_40, lM_41, lM_42, lM_43, lM_44, lM_45, lM_46, lM_47, dX7_goes_0, st_aload_n, dX7_goes_1, st_getfield, fl_X7_126, dX7_goes_4, st_ifCond, dX7_goes_7, dX7_goes_8, st_bipush, dX7_goes_10, st_invokevirtual, dX7_goes_13, st_ireturn, dX7_goes_14, dX7_goes_15, st_dup, dX7_goes_16, dX7_goes_19, st_iconst, dX7_goes_20, st_isub, dX7_goes_21, st_putfield, dX7_goes_24, dX7_goes_25, st_istore_n, dX7_goes_26, st_iload_n, dX7_goes_27, dX7_goes_29, st_if_icmp, dX7_goes_32, dX7_goes_33, fl_X7_68, dX7_goes_36, dX7_goes_37, st_iaload, dX7_goes_38, dX7_goes_39, dX7_goes_42, dX7_goes_43, fl_X7_77, dX7_goes_46, dX7_goes_47, dX7_goes_48, dX7_goes_49, dX7_goes_52, dX7_goes_55, dX7_goes_56, dX7_goes_59, dX7_goes_60, dX7_goes_61, st_iastore, dX7_goes_62, st_iinc, dX7_goes_65, st_goto, dX7_goes_68, dX7_goes_69, dX7_goes_72, c_X7_goes_136, pX7_no_e, fX7_no_e, Option.toList_some, Option.toList_none, List.cons_append, List.nil_append, ofI_m6, ofJ_1, ofI_0, ofI_8, ofJ_2, hp1, xwp_s, xcu_s, xcu_n, xPc_e, xsub_0, xsub_n, xsub_s, k26, kn, nI_00, geM_0, hT, hz]
    try simp
theorem rX7_goes : ∀ as σ, pX7_goes as σ → ∃ K as', as = .ref K :: as' ∧ xob WM K 7 := by
  rintro as σ ⟨rfl, hpre⟩
  exact ⟨_, _, rfl, by first | exact hpre | exact hpre.1 | exact obT hpre | exact obT hpre.1 | exact obS hpre | exact obS hpre.1 | exact obM | exact ob6 | exact ob2 | exact ob0⟩
