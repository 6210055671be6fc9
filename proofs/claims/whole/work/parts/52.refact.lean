/-! walls, the fault, the acts -/
def wcM (σ : xS) : Nat → Int32
  | 0 => 0
  | i + 1 => wcM σ i + σ.1 10 i
theorem wcM_s {σ : xS} {i : Nat} : wcM σ (i + 1) = wcM σ i + σ.1 10 i := rfl
theorem wcM_0 {σ : xS} : wcM σ 0 = 0 := rfl
def staM (σ : xS) (x : Int32) : Int32 := if 11 ≤ x ∧ x ≤ 17 then σ.1 6 (tn (x - 10)) else if x = 0 then σ.1 0 0 else if x = 1 then σ.1 0 1 else if x = 2 then wcM σ 49 else if x = 3 then σ.1 0 2 else if x = 4 then σ.1 0 3 else if x = 5 then σ.1 0 4 else if x = 6 then σ.1 0 48 else -1
theorem st_ix {x : Int32} (h1 : 11 ≤ x) (h2 : x ≤ 17) : 0 ≤ x - 10 ∧ tn (x - 10) < 8 := by
  have a1 := t_le.mp h1
  have a2 := t_le.mp h2
  have e1 : (11 : Int32).toInt = 11 := rfl
  have e2 : (17 : Int32).toInt = 17 := rfl
  have e3 : (10 : Int32).toInt = 10 := rfl
  rw [e1] at a1
  rw [e2] at a2
  have s : (x - 10).toInt = x.toInt - 10 := by rw [t_sub (by rw [e3]; omega) (by rw [e3]; omega), e3]
  constructor
  · rw [t_le, s, t_0]; omega
  · rw [t_tn, s]; omega
def pX7_wall (as : List Value) (σ : xS) : Prop := ∃ (p : Int32) (b : Int32), as = [.ref 0, .int p, .int b] ∧ ((0 ≤ σ.1 0 1) ∧ (σ.1 0 1 ≤ 6))
def fX7_wall (as : List Value) (σ : xS) : Option Value × xS := match as with
  | [.ref 0, .int p, .int b] => (some (.int (walM σ p b).1), (walM σ p b).2)
  | _ => (none, σ)
theorem pX7_wall_e {p : Int32} {b : Int32} {σ : xS} : pX7_wall [.ref 0, .int p, .int b] σ = ((0 ≤ σ.1 0 1) ∧ (σ.1 0 1 ≤ 6)) := propext ⟨fun h => by obtain ⟨p, b, e, h⟩ := h; cases e; exact h, fun h => ⟨p, b, rfl, h⟩⟩
theorem fX7_wall_e {p : Int32} {b : Int32} {σ : xS} : fX7_wall [.ref 0, .int p, .int b] σ = (some (.int (walM σ p b).1), (walM σ p b).2) := rfl
def calX7_wall : List (Nat × xCall) := [(167, (false, 2, pX7_isPlace, fX7_isPlace)), (177, (false, 2, pX7_isTaken, fX7_isTaken)), (136, (false, 2, pX7_no, fX7_no))]
theorem c_X7_wall_167 : xlk calX7_wall 167 = some (false, 2, pX7_isPlace, fX7_isPlace) := rfl
theorem c_X7_wall_177 : xlk calX7_wall 177 = some (false, 2, pX7_isTaken, fX7_isTaken) := rfl
theorem c_X7_wall_136 : xlk calX7_wall 136 = some (false, 2, pX7_no, fX7_no) := rfl
set_option maxHeartbeats 4000000 in
set_option maxRecDepth 100000 in
theorem mX7_wall : xMet WM yX7_wall cX7_wall 4 (some .int) 2 pX7_wall fX7_wall := by
  refine xMet_of (fld := xlk fldX7) (cal := xlk calX7_wall) (ks := xlk []) (gs := xlk []) (ro := fun _ => none) 0 (by decide) WM_nd rfl fldX7_ok xKs_nil xGs_nil (Or.inr rfl) (xcal_cons (xCk_V mX7_isPlace 7 (by decide) (by decide) (by decide) rfl (fun as σ h _ => rX7_isPlace as σ h) w_X7_167 ⟨by decide, by decide, by decide +kernel⟩) (xcal_cons (xCk_V mX7_isTaken 7 (by decide) (by decide) (by decide) rfl (fun as σ h _ => rX7_isTaken as σ h) w_X7_177 ⟨by decide, by decide, by decide +kernel⟩) (xcal_cons (xCk_V mX7_no 7 (by decide) (by decide) (by decide) rfl (fun as σ h _ => rX7_no as σ h) w_X7_136 ⟨by decide, by decide, by decide +kernel⟩) xcal_nil))) ?_ ?_
  · rintro av σ ⟨p, b, rfl, hpre⟩
    exact Nat.le_of_ble_eq_true rfl
  rintro av σ ⟨p, b, rfl, ⟨hp1, hp2⟩⟩ Rt hR
  have hR2 := hR2_g (Rt := Rt) (F := walM σ p b) (fun r s' => by rw [hR, fX7_wall_e])
  have h49 : 0 ≤ p ∧ p < 49 → tn p < 49 := tn49
  refine xgo0 40 ?_
  simp -implicitDefEqProofs only [xwp_2, xwp_0, xwp_1, xws_s, xdd_o, xld_0, xld_s, xs1_0, xs1_1, xs1_s, xs2_0, xs2_1, xs2_s, xlg_n, xlg_i, xlg_r, xlg_z, xlg_l, xf4_0, xf4_1, xf4_2, xf4_3, xgo_e, xcmp_eq, xcmp_ne, xcmp_lt, xcmp_ge, xcmp_gt, xcmp_le, xfg_0, xfg_1, xfg_2, xfg_3, xfg_4, xpop_0, xpop_s, xsw_n, xsw_c, xtb_n, xtb_c, xenp_n, xenp_i, xenp_r, xenp_z, xenp_l, xrep_0, xrep_s, Nat.reduceSub, true_and, and_true, cat_i, cat_r, Nat.reduceAdd, Nat.reduceLT, Nat.reduceLeDiff, Nat.reduceEqDiff, xnc, Int.reduceAdd, Int.reduceSub, Int.reduceNeg, Int.reduceLE, Int.reduceLT, Int.reduceToNat, ↓reduceIte, List.length_cons, List.length_nil, xlc0, xlc1, ite_10, i10, i01, i0_2, i0_3, i0_4, i0_6, i0_7, i0_8, i0_49, i0_10, or_true, true_or, or_false, false_or, not_false_eq_true, not_true_eq_false, xnt, xI_g, eq_self, xI_2, xJ_1, false_and, and_false, obM_t, rMi, vp_tn, tn_def, lgc, nI8, nI6, nI160, nI20, nI401, nI49, aM_6, aM_7, aM_8, aM_9, aM_10, aM_11, aM_12, aM_13, aM_14, aM_15, aM_16, aM_17, aM_18, aM_19, aM_20, aM_21, aM_22, aM_23, aM_24, aM_25, aM_26, aM_27, aM_28, aM_29, aM_30, aM_31, aM_38, aM_39, aM_40, aM_41, aM_42, aM_43, aM_44, aM_45, aM_46, aM_47, lM_6, lM_7, lM_8, lM_9, lM_10, lM_11, lM_12, lM_13, lM_14, lM_15, lM_16, lM_17, lM_18, lM_19, lM_20, lM_21, lM_22, lM_23, lM_24, lM_25, lM_26, lM_27, lM_28, lM_29, lM_30, lM_31, lM_38, lM_39, lM_40, lM_41, lM_42, lM_43, lM_44, lM_45, lM_46, lM_47, dX7_wall_0, st_aload_n, dX7_wall_1, st_iload_n, dX7_wall_2, st_invokevirtual, dX7_wall_5, st_ifCond, dX7_wall_8, dX7_wall_9, dX7_wall_12, dX7_wall_13, dX7_wall_14, dX7_wall_17, dX7_wall_20, dX7_wall_21, st_bipush, dX7_wall_23, dX7_wall_26, st_ireturn, dX7_wall_27, dX7_wall_28, st_getfield, fl_X7_29, dX7_wall_31, dX7_wall_32, st_iaload, dX7_wall_33, st_istore_n, dX7_wall_34, dX7_wall_35, dX7_wall_38, dX7_wall_39, dX7_wall_40, dX7_wall_43, st_iconst, dX7_wall_44, st_goto, dX7_wall_47, dX7_wall_48, st_iastore, dX7_wall_49, dX7_wall_50, dX7_wall_51, dX7_wall_54, dX7_wall_55, dX7_wall_56, st_if_icmp, dX7_wall_59, dX7_wall_60, dX7_wall_63, dX7_wall_64, c_X7_wall_167, pX7_isPlace_e, fX7_isPlace_e, Option.toList_some, Option.toList_none, List.cons_append, List.nil_append, c_X7_wall_177, pX7_isTaken_e, fX7_isTaken_e, c_X7_wall_136, pX7_no_e, fX7_no_e, ofI_m6, ofJ_1, ofI_0, hp1, hp2, nbP_1, nbP_2, nbP_3, nbP_4, nbP_5, nbP_6, nbP_7]
  clear hR
  simp only [hR2, walM, noM]
  clear hR2
  generalize itM σ p = u at *
  grind (splits := 40)
theorem rX7_wall : ∀ as σ, pX7_wall as σ → ∃ K as', as = .ref K :: as' ∧ xob WM K 7 := by
  rintro as σ ⟨p, b, rfl, hpre⟩
  exact ⟨_, _, rfl, by first | exact hpre | exact hpre.1 | exact obT hpre | exact obT hpre.1 | exact obS hpre | exact obS hpre.1 | exact obM | exact ob6 | exact ob2 | exact ob0⟩
def pX7_fault (as : List Value) (σ : xS) : Prop := as = [.ref 0] ∧ (True)
def fX7_fault (as : List Value) (σ : xS) : Option Value × xS := match as with
  | [.ref 0] => (some (.int (σ.1 0 5)), σ)
  | _ => (none, σ)
theorem pX7_fault_e {σ : xS} : pX7_fault [.ref 0] σ = (True) := propext ⟨fun h => h.2, fun h => ⟨rfl, h⟩⟩
theorem fX7_fault_e  {σ : xS} : fX7_fault [.ref 0] σ = (some (.int (σ.1 0 5)), σ) := rfl
def calX7_fault : List (Nat × xCall) := []
set_option maxHeartbeats 4000000 in
set_option maxRecDepth 100000 in
theorem mX7_fault : xMet WM yX7_fault cX7_fault 1 (some .int) 1 pX7_fault fX7_fault := by
  refine xMet_of (fld := xlk fldX7) (cal := xlk calX7_fault) (ks := xlk []) (gs := xlk []) (ro := fun _ => none) 0 (by decide) WM_nd rfl fldX7_ok xKs_nil xGs_nil (Or.inr rfl) xcal_nil ?_ ?_
  · rintro av σ ⟨rfl, hpre⟩
    exact Nat.le_of_ble_eq_true rfl
  rintro av σ ⟨rfl, hp1⟩ Rt hR
  refine xgo0 5 ?_
  simp -implicitDefEqProofs only [xwp_2, xwp_0, xwp_1, xws_s, xdd_o, xld_0, xld_s, xs1_0, xs1_1, xs1_s, xs2_0, xs2_1, xs2_s, xlg_n, xlg_i, xlg_r, xlg_z, xlg_l, xf4_0, xf4_1, xf4_2, xf4_3, xgo_e, xcmp_eq, xcmp_ne, xcmp_lt, xcmp_ge, xcmp_gt, xcmp_le, xfg_0, xfg_1, xfg_2, xfg_3, xfg_4, xpop_0, xpop_s, xsw_n, xsw_c, xtb_n, xtb_c, xenp_n, xenp_i, xenp_r, xenp_z, xenp_l, xrep_0, xrep_s, Nat.reduceSub, true_and, and_true, cat_i, cat_r, Nat.reduceAdd, Nat.reduceLT, Nat.reduceLeDiff, Nat.reduceEqDiff, xnc, Int.reduceAdd, Int.reduceSub, Int.reduceNeg, Int.reduceLE, Int.reduceLT, Int.reduceToNat, ↓reduceIte, List.length_cons, List.length_nil, xlc0, xlc1, ite_10, i10, i01, i0_2, i0_3, i0_4, i0_6, i0_7, i0_8, i0_49, i0_10, or_true, true_or, or_false, false_or, not_false_eq_true, not_true_eq_false, xnt, xI_g, eq_self, xI_2, xJ_1, false_and, and_false, obM_t, rMi, vp_tn, tn_def, lgc, nI8, nI6, nI160, nI20, nI401, nI49, aM_6, aM_7, aM_8, aM_9, aM_10, aM_11, aM_12, aM_13, aM_14, aM_15, aM_16, aM_17, aM_18, aM_19, aM_20, aM_21, aM_22, aM_23, aM_24, aM_25, aM_26, aM_27, aM_28, aM_29, aM_30, aM_31, aM_38, aM_39, aM_40, aM_41, aM_42, aM_43, aM_44, aM_45, aM_46, aM_47, lM_6, lM_7, lM_8, lM_9, lM_10, lM_11, lM_12, lM_13, lM_14, lM_15, lM_16, lM_17, lM_18, lM_19, lM_20, lM_21, lM_22, lM_23, lM_24, lM_25, lM_26, lM_27, lM_28, lM_29, lM_30, lM_31, lM_38, lM_39, lM_40, lM_41, lM_42, lM_43, lM_44, lM_45, lM_46, lM_47, dX7_fault_0, st_aload_n, dX7_fault_1, st_getfield, fl_X7_13, dX7_fault_4, st_ireturn, hp1]
  simp only [hR, fX7_fault_e, and_self]
theorem rX7_fault : ∀ as σ, pX7_fault as σ → ∃ K as', as = .ref K :: as' ∧ xob WM K 7 := by
  rintro as σ ⟨rfl, hpre⟩
  exact ⟨_, _, rfl, by first | exact hpre | exact hpre.1 | exact obT hpre | exact obT hpre.1 | exact obS hpre | exact obS hpre.1 | exact obM | exact ob6 | exact ob2 | exact ob0⟩
def pX7_status (as : List Value) (σ : xS) : Prop := ∃ (x : Int32), as = [.ref 0, .int x] ∧ (True)
def fX7_status (as : List Value) (σ : xS) : Option Value × xS := match as with
  | [.ref 0, .int x] => (some (.int (staM σ x)), σ)
  | _ => (none, σ)
theorem pX7_status_e {x : Int32} {σ : xS} : pX7_status [.ref 0, .int x] σ = (True) := propext ⟨fun h => by obtain ⟨x, e, h⟩ := h; cases e; exact h, fun h => ⟨x, rfl, h⟩⟩
theorem fX7_status_e {x : Int32} {σ : xS} : fX7_status [.ref 0, .int x] σ = (some (.int (staM σ x)), σ) := rfl
def calX7_status : List (Nat × xCall) := []
set_option maxHeartbeats 4000000 in
set_option maxRecDepth 100000 in
theorem mX7_status : xMet WM yX7_status cX7_status 4 (some .int) 1 pX7_status fX7_status := by
  refine xMet_of (fld := xlk fldX7) (cal := xlk calX7_status) (ks := xlk []) (gs := xlk []) (ro := fun _ => none) 0 (by decide) WM_nd rfl fldX7_ok xKs_nil xGs_nil (Or.inr rfl) xcal_nil ?_ ?_
  · rintro av σ ⟨x, rfl, hpre⟩
    exact Nat.le_of_ble_eq_true rfl
  rintro av σ ⟨x, rfl, hp1⟩ Rt hR
  have h8 : 11 ≤ x → x ≤ 17 → 0 ≤ x - 10 ∧ tn (x - 10) < 8 := st_ix
  have h80 : x = 2 → xGo WM 4 (xlk fldX7) (xlk calX7_status) (xlk []) (xlk []) (fun _ => none) 0 cX7_status Rt 80 [some (.ref 0), some (.int x), some (.int (wcM σ 0)), some (.int (nI 0))] [] σ := fun hx => by
    subst hx
    have g0 : fX7_status [.ref 0, .int 2] σ = (some (.int (wcM σ 49)), σ) := rfl
    rw [g0] at hR
    clear g0
    have h1 : ∀ i, i ≤ 49 → xGo WM 4 (xlk fldX7) (xlk calX7_status) (xlk []) (xlk []) (fun _ => none) 0 cX7_status Rt 80 [some (.ref 0), some (.int 2), some (.int (wcM σ i)), some (.int (nI i))] [] (σ) := by
      refine xcount (49) (fun i => xGo WM 4 (xlk fldX7) (xlk calX7_status) (xlk []) (xlk []) (fun _ => none) 0 cX7_status Rt 80 [some (.ref 0), some (.int 2), some (.int (wcM σ i)), some (.int (nI i))] [] (σ)) (fun i hi ih => ?_)
      have hc : (49 : Int32) ≤ nI i ↔ 49 ≤ i := nI_leI (a := 49) (by omega) (by omega)
      have e0 : 0 ≤ nI i := nI_pos' (by omega)
      have e1 : nI i + 1 = nI (i + 1) := nI_1 i
      have e2 : tn (nI i) = i := tn_nI (by omega)
      refine xtoCs [(80, xPc (i < 49) [some (.ref 0), some (.int 2), some (.int (wcM σ (i + 1))), some (.int (nI (i + 1)))] (σ))] (xcs_cons (ih) xcs_nil) 22 (fun cf hcf => ?_)
      have k80 : cf 80 = some (xPc (i < 49) [some (.ref 0), some (.int 2), some (.int (wcM σ (i + 1))), some (.int (nI (i + 1)))] (σ)) := (hcf 80).trans rfl
      have kn : ∀ pc, ¬ pc = 80 → cf pc = none := fun pc h0 => by rw [hcf, xlk_c, if_neg h0, xlk_n]
      clear hcf
      simp (config := {maxSteps := 4000000, implicitDefEqProofs := false}) only [xwp_2, xwp_0, xwp_1, xws_s, xdd_o, xld_0, xld_s, xs1_0, xs1_1, xs1_s, xs2_0, xs2_1, xs2_s, xlg_n, xlg_i, xlg_r, xlg_z, xlg_l, xf4_0, xf4_1, xf4_2, xf4_3, xgo_e, xcmp_eq, xcmp_ne, xcmp_lt, xcmp_ge, xcmp_gt, xcmp_le, xfg_0, xfg_1, xfg_2, xfg_3, xfg_4, xpop_0, xpop_s, xsw_n, xsw_c, xtb_n, xtb_c, xenp_n, xenp_i, xenp_r, xenp_z, xenp_l, xrep_0, xrep_s, Nat.reduceSub, true_and, and_true, cat_i, cat_r, Nat.reduceAdd, Nat.reduceLT, Nat.reduceLeDiff, Nat.reduceEqDiff, xnc, Int.reduceAdd, Int.reduceSub, Int.reduceNeg, Int.reduceLE, Int.reduceLT, Int.reduceToNat, ↓reduceIte, List.length_cons, List.length_nil, xlc0, xlc1, ite_10, i10, i01, i0_2, i0_3, i0_4, i0_6, i0_7, i0_8, i0_49, i0_10, or_true, true_or, or_false, false_or, not_false_eq_true, not_true_eq_false, xnt, xI_g, eq_self, xI_2, xJ_1, false_and, and_false, obM_t, rMi, vp_tn, tn_def, lgc, nI8, nI6, nI160, nI20, nI401, nI49, aM_6, aM_7, aM_8, aM_9, aM_10, aM_11, aM_12, aM_13, aM_14, aM_15, aM_16, aM_17, aM_18, aM_19, aM_20, aM_21, aM_22, aM_23, aM_24, aM_25, aM_26, aM_27, aM_28, aM_29, aM_30, aM_31, aM_38, aM_39, aM_40, aM_41, aM_42, aM_43, aM_44, aM_45, aM_46, aM_47, lM_6, lM_7, lM_8, lM_9, lM_10, lM_11, lM_12, lM_13, lM_14, lM_15, lM_16, lM_17, lM_18, lM_19, lM_20, lM_21, lM_22, lM_23, lM_24, lM_25, lM_26, lM_27, lM_28, lM_29, lM_30, lM_31, lM_38, lM_39, lM_40, lM_41, lM_42, lM_43, lM_44, lM_45, lM_46, lM_47, dX7_status_0, st_iload_n, dX7_status_1, st_bipush, dX7_status_3, st_if_icmp, dX7_status_6, dX7_status_7, dX7_status_9, dX7_status_12, st_aload_n, dX7_status_13, st_getfield, fl_X7_16, dX7_status_16, dX7_status_17, dX7_status_19, st_isub, dX7_status_20, st_iaload, dX7_status_21, st_ireturn, dX7_status_22, st_iconst, dX7_status_23, st_istore_n, dX7_status_24, dX7_status_25, st_tableswitch, dX7_status_68, dX7_status_69, fl_X7_129, dX7_status_72, dX7_status_73, dX7_status_74, fl_X7_126, dX7_status_77, dX7_status_78, dX7_status_79, dX7_status_80, dX7_status_81, dX7_status_83, dX7_status_86, dX7_status_87, dX7_status_88, fl_X7_29, dX7_status_91, dX7_status_92, dX7_status_93, st_iadd, dX7_status_94, dX7_status_95, st_iinc, dX7_status_98, st_goto, dX7_status_101, dX7_status_102, dX7_status_103, dX7_status_104, fl_X7_245, dX7_status_107, dX7_status_108, dX7_status_109, fl_X7_248, dX7_status_112, dX7_status_113, dX7_status_114, fl_X7_7, dX7_status_117, dX7_status_118, dX7_status_119, fl_X7_330, dX7_status_122, dX7_status_123, dX7_status_124, ofI_11, ofI_17, ofI_10, ofI_0, ofI_m2, ofI_m1, ofJ_1, ofJ_2, ofJ_3, ofI_4, ofI_5, ofI_6, ofI_7, ofI_8, ofI_9, ofI_49, hp1, xwp_s, xcu_s, xcu_n, xPc_e, xsub_0, xsub_n, xsub_s, k80, kn, hc, e0, e1, e2]
      have fin : 49 ≤ i → wcM σ i = wcM σ 49 := fun h => by rw [show i = 49 by omega]
      have h8 : ¬ 49 ≤ i → i < 49 := fun h => by omega
      rw [wcM_s]
      simp only [hR]
      clear hR hc ih
      generalize wcM σ 49 = Z at *
      generalize wcM σ i = U at *
      grind (splits := 40)
    exact h1 0 (Nat.zero_le _)
  refine xtoC [(80, xPc (x = 2) [some (.ref 0), some (.int x), some (.int (wcM σ 0)), some (.int (nI 0))] (σ))] (xcs_cons (h80) xcs_nil) 16 (fun cf hcf => ?_)
  have k80 : cf 80 = some (xPc (x = 2) [some (.ref 0), some (.int x), some (.int (wcM σ 0)), some (.int (nI 0))] (σ)) := (hcf 80).trans rfl
  have kn : ∀ pc, ¬ pc = 80 → cf pc = none := fun pc h0 => by rw [hcf, xlk_c, if_neg h0, xlk_n]
  clear hcf
  simp (config := {maxSteps := 4000000, implicitDefEqProofs := false}) only [xwp_2, xwp_0, xwp_1, xws_s, xdd_o, xld_0, xld_s, xs1_0, xs1_1, xs1_s, xs2_0, xs2_1, xs2_s, xlg_n, xlg_i, xlg_r, xlg_z, xlg_l, xf4_0, xf4_1, xf4_2, xf4_3, xgo_e, xcmp_eq, xcmp_ne, xcmp_lt, xcmp_ge, xcmp_gt, xcmp_le, xfg_0, xfg_1, xfg_2, xfg_3, xfg_4, xpop_0, xpop_s, xsw_n, xsw_c, xtb_n, xtb_c, xenp_n, xenp_i, xenp_r, xenp_z, xenp_l, xrep_0, xrep_s, Nat.reduceSub, true_and, and_true, cat_i, cat_r, Nat.reduceAdd, Nat.reduceLT, Nat.reduceLeDiff, Nat.reduceEqDiff, xnc, Int.reduceAdd, Int.reduceSub, Int.reduceNeg, Int.reduceLE, Int.reduceLT, Int.reduceToNat, ↓reduceIte, List.length_cons, List.length_nil, xlc0, xlc1, ite_10, i10, i01, i0_2, i0_3, i0_4, i0_6, i0_7, i0_8, i0_49, i0_10, or_true, true_or, or_false, false_or, not_false_eq_true, not_true_eq_false, xnt, xI_g, eq_self, xI_2, xJ_1, false_and, and_false, obM_t, rMi, vp_tn, tn_def, lgc, nI8, nI6, nI160, nI20, nI401, nI49, aM_6, aM_7, aM_8, aM_9, aM_10, aM_11, aM_12, aM_13, aM_14, aM_15, aM_16, aM_17, aM_18, aM_19, aM_20, aM_21, aM_22, aM_23, aM_24, aM_25, aM_26, aM_27, aM_28, aM_29, aM_30, aM_31, aM_38, aM_39, aM_40, aM_41, aM_42, aM_43, aM_44, aM_45, aM_46, aM_47, lM_6, lM_7, lM_8, lM_9, lM_10, lM_11, lM_12, lM_13, lM_14, lM_15, lM_16, lM_17, lM_18, lM_19, lM_20, lM_21, lM_22, lM_23, lM_24, lM_25, lM_26, lM_27, lM_28, lM_29, lM_30, lM_31, lM_38, lM_39, lM_40, lM_41, lM_42, lM_43, lM_44, lM_45, lM_46, lM_47, dX7_status_0, st_iload_n, dX7_status_1, st_bipush, dX7_status_3, st_if_icmp, dX7_status_6, dX7_status_7, dX7_status_9, dX7_status_12, st_aload_n, dX7_status_13, st_getfield, fl_X7_16, dX7_status_16, dX7_status_17, dX7_status_19, st_isub, dX7_status_20, st_iaload, dX7_status_21, st_ireturn, dX7_status_22, st_iconst, dX7_status_23, st_istore_n, dX7_status_24, dX7_status_25, st_tableswitch, dX7_status_68, dX7_status_69, fl_X7_129, dX7_status_72, dX7_status_73, dX7_status_74, fl_X7_126, dX7_status_77, dX7_status_78, dX7_status_79, dX7_status_80, dX7_status_81, dX7_status_83, dX7_status_86, dX7_status_87, dX7_status_88, fl_X7_29, dX7_status_91, dX7_status_92, dX7_status_93, st_iadd, dX7_status_94, dX7_status_95, st_iinc, dX7_status_98, st_goto, dX7_status_101, dX7_status_102, dX7_status_103, dX7_status_104, fl_X7_245, dX7_status_107, dX7_status_108, dX7_status_109, fl_X7_248, dX7_status_112, dX7_status_113, dX7_status_114, fl_X7_7, dX7_status_117, dX7_status_118, dX7_status_119, fl_X7_330, dX7_status_122, dX7_status_123, dX7_status_124, ofI_11, ofI_17, ofI_10, ofI_0, ofI_m2, ofI_m1, ofJ_1, ofJ_2, ofJ_3, ofI_4, ofI_5, ofI_6, ofI_7, ofI_8, ofI_9, ofI_49, hp1, xwp_s, xcu_s, xcu_n, xPc_e, xsub_0, xsub_n, xsub_s, k80, kn, nI_00, wcM_0, h8]
  simp only [hR, fX7_status_e, staM]
  clear hR
  generalize wcM σ 49 = Z at *
  grind (splits := 60)
theorem rX7_status : ∀ as σ, pX7_status as σ → ∃ K as', as = .ref K :: as' ∧ xob WM K 7 := by
  rintro as σ ⟨x, rfl, hpre⟩
  exact ⟨_, _, rfl, by first | exact hpre | exact hpre.1 | exact obT hpre | exact obT hpre.1 | exact obS hpre | exact obS hpre.1 | exact obM | exact ob6 | exact ob2 | exact ob0⟩
theorem bdM_48 {σ : xS} {b : Int32} : (bdM σ b).1 0 48 = σ.1 0 48 + 1 := by
  unfold bdM
  split
  · rw [xI_s]
  · rw [xI_s]
theorem bdM_o {σ : xS} {b : Int32} {a c : Nat} (h : a ≠ 0 ∧ a ≠ 47 ∨ a = 0 ∧ c ≠ 48) : (bdM σ b).1 a c = σ.1 a c := by
  unfold bdM
  split
  · rw [xI_n (by omega), xI_n (by omega)]
  · rw [xI_n (by omega)]
def rnP (n : Int) (x : Int32) : Prop := 0 ≤ x.toInt ∧ x.toInt ≤ n
theorem rnP_0 {n : Int} {x : Int32} (h : rnP n x) : 0 ≤ x := by
  rw [t_le, t_0]; exact h.1
theorem rnP_s {n : Int} {x : Int32} (hn : n < 1000) (h : rnP n x) : rnP (n + 1) (x + 1) := by
  obtain ⟨h1, h2⟩ := h
  have e : (x + 1).toInt = x.toInt + 1 := by rw [t_add (by rw [t_1]; omega) (by rw [t_1]; omega), t_1]
  unfold rnP
  rw [e]
  omega
/-- the bodies ahead of the walker's own step -/
def sgS (σ : xS) (k : Int32) : xS := if k = 4 then bdM σ 51 else if k = 6 then bdM σ 70 else if k = 1 ∨ k = 5 then bdM σ 20 else σ
def sgT (σ : xS) (x : Int32) : xS := bdM (sgS σ (σ.1 11 (tn x))) 10
def sgV (σ : xS) (x v : Int32) : Int32 := if σ.1 11 (tn x) = 4 then v + x - x else if σ.1 11 (tn x) = 6 then (v + x) * 2 else if σ.1 11 (tn x) = 1 ∨ σ.1 11 (tn x) = 5 then v + x + σ.1 12 (tn x) else v + x
theorem sgS_o {σ : xS} {k : Int32} {a c : Nat} (h : a ≠ 0 ∧ a ≠ 47 ∨ a = 0 ∧ c ≠ 48) : (sgS σ k).1 a c = σ.1 a c := by
  unfold sgS
  split
  · exact bdM_o h
  · split
    · exact bdM_o h
    · split
      · exact bdM_o h
      · rfl
theorem sgT_o {σ : xS} {x : Int32} {a c : Nat} (h : a ≠ 0 ∧ a ≠ 47 ∨ a = 0 ∧ c ≠ 48) : (sgT σ x).1 a c = σ.1 a c := by
  unfold sgT
  rw [bdM_o h, sgS_o h]
theorem sgS_r {σ : xS} {k : Int32} {n : Int} (hn : n < 1000) (h : rnP n (σ.1 0 48)) : rnP (n + 1) ((sgS σ k).1 0 48) := by
  have h2 : rnP (n + 1) (σ.1 0 48) := ⟨h.1, by have := h.2; omega⟩
  unfold sgS
  split
  · rw [bdM_48]; exact rnP_s hn h
  · split
    · rw [bdM_48]; exact rnP_s hn h
    · split
      · rw [bdM_48]; exact rnP_s hn h
      · exact h2
theorem sgT_r {σ : xS} {x : Int32} {n : Int} (hn : n < 900) (h : rnP n (σ.1 0 48)) : rnP (n + 2) ((sgT σ x).1 0 48) := by
  unfold sgT
  rw [bdM_48]
  have := rnP_s (by omega) (sgS_r (k := σ.1 11 (tn x)) (by omega) h)
  rw [show n + 2 = n + 1 + 1 by omega]
  exact this
def pX7_stepping (as : List Value) (σ : xS) : Prop := ∃ (x : Int32) (v : Int32), as = [.ref 0, .int x, .int v] ∧ ((0 ≤ x) ∧ (tn x < 6) ∧ (rnP 20 (σ.1 0 48)))
def fX7_stepping (as : List Value) (σ : xS) : Option Value × xS := match as with
  | [.ref 0, .int x, .int v] => (some (.int (sgV σ x v)), sgT σ x)
  | _ => (none, σ)
theorem pX7_stepping_e {x : Int32} {v : Int32} {σ : xS} : pX7_stepping [.ref 0, .int x, .int v] σ = ((0 ≤ x) ∧ (tn x < 6) ∧ (rnP 20 (σ.1 0 48))) := propext ⟨fun h => by obtain ⟨x, v, e, h⟩ := h; cases e; exact h, fun h => ⟨x, v, rfl, h⟩⟩
theorem fX7_stepping_e {x : Int32} {v : Int32} {σ : xS} : fX7_stepping [.ref 0, .int x, .int v] σ = (some (.int (sgV σ x v)), sgT σ x) := rfl
def calX7_stepping : List (Nat × xCall) := [(333, (false, 2, pX7_body, fX7_body))]
theorem c_X7_stepping_333 : xlk calX7_stepping 333 = some (false, 2, pX7_body, fX7_body) := rfl
set_option maxHeartbeats 4000000 in
set_option maxRecDepth 100000 in
theorem mX7_stepping : xMet WM yX7_stepping cX7_stepping 5 (some .int) 2 pX7_stepping fX7_stepping := by
  refine xMet_of (fld := xlk fldX7) (cal := xlk calX7_stepping) (ks := xlk []) (gs := xlk []) (ro := fun _ => none) 0 (by decide) WM_nd rfl fldX7_ok xKs_nil xGs_nil (Or.inr rfl) (xcal_cons (xCk_V mX7_body 7 (by decide) (by decide) (by decide) rfl (fun as σ h _ => rX7_body as σ h) w_X7_333 ⟨by decide, by decide, by decide +kernel⟩) xcal_nil) ?_ ?_
  · rintro av σ ⟨x, v, rfl, hpre⟩
    exact Nat.le_of_ble_eq_true rfl
  rintro av σ ⟨x, v, rfl, ⟨hp1, hp2, hp3⟩⟩ Rt hR
  have r0 := rnP_0 hp3
  have r1 := rnP_0 (rnP_s (by omega) hp3)
  have r2 := rnP_0 (rnP_s (by omega) (rnP_s (by omega) hp3))
  have r3 := rnP_0 (rnP_s (by omega) (rnP_s (by omega) (rnP_s (by omega) hp3)))
  have h46 : xGo WM 5 (xlk fldX7) (xlk calX7_stepping) (xlk []) (xlk []) (fun _ => none) 0 cX7_stepping Rt 46 [some (.ref 0), some (.int x), some (.int v), some (.int (σ.1 11 (tn x))), none] [] (sgS σ (σ.1 11 (tn x))) := by
    have s0 := rnP_0 (sgS_r (k := σ.1 11 (tn x)) (by omega) hp3)
    have z1 : ∀ a c, a ≠ 0 ∧ a ≠ 47 ∨ a = 0 ∧ c ≠ 48 → (bdM (sgS σ (σ.1 11 (tn x))) 10).1 a c = σ.1 a c := fun a c h => by rw [bdM_o h, sgS_o h]
    have z2 := z1 12 (tn x) (by omega)
    have hv : sgV σ x v = if σ.1 11 (tn x) = 4 then v + x - x else if σ.1 11 (tn x) = 6 then (v + x) * 2 else if σ.1 11 (tn x) = 1 ∨ σ.1 11 (tn x) = 5 then v + x + σ.1 12 (tn x) else v + x := rfl
    have ht : bdM (sgS σ (σ.1 11 (tn x))) 10 = sgT σ x := rfl
    refine xgo0 40 ?_
    simp -implicitDefEqProofs only [xwp_2, xwp_0, xwp_1, xws_s, xdd_o, xld_0, xld_s, xs1_0, xs1_1, xs1_s, xs2_0, xs2_1, xs2_s, xlg_n, xlg_i, xlg_r, xlg_z, xlg_l, xf4_0, xf4_1, xf4_2, xf4_3, xgo_e, xcmp_eq, xcmp_ne, xcmp_lt, xcmp_ge, xcmp_gt, xcmp_le, xfg_0, xfg_1, xfg_2, xfg_3, xfg_4, xpop_0, xpop_s, xsw_n, xsw_c, xtb_n, xtb_c, xenp_n, xenp_i, xenp_r, xenp_z, xenp_l, xrep_0, xrep_s, Nat.reduceSub, true_and, and_true, cat_i, cat_r, Nat.reduceAdd, Nat.reduceLT, Nat.reduceLeDiff, Nat.reduceEqDiff, xnc, Int.reduceAdd, Int.reduceSub, Int.reduceNeg, Int.reduceLE, Int.reduceLT, Int.reduceToNat, ↓reduceIte, List.length_cons, List.length_nil, xlc0, xlc1, ite_10, i10, i01, i0_2, i0_3, i0_4, i0_6, i0_7, i0_8, i0_49, i0_10, or_true, true_or, or_false, false_or, not_false_eq_true, not_true_eq_false, xnt, xI_g, eq_self, xI_2, xJ_1, false_and, and_false, obM_t, rMi, vp_tn, tn_def, lgc, nI8, nI6, nI160, nI20, nI401, nI49, aM_6, aM_7, aM_8, aM_9, aM_10, aM_11, aM_12, aM_13, aM_14, aM_15, aM_16, aM_17, aM_18, aM_19, aM_20, aM_21, aM_22, aM_23, aM_24, aM_25, aM_26, aM_27, aM_28, aM_29, aM_30, aM_31, aM_38, aM_39, aM_40, aM_41, aM_42, aM_43, aM_44, aM_45, aM_46, aM_47, lM_6, lM_7, lM_8, lM_9, lM_10, lM_11, lM_12, lM_13, lM_14, lM_15, lM_16, lM_17, lM_18, lM_19, lM_20, lM_21, lM_22, lM_23, lM_24, lM_25, lM_26, lM_27, lM_28, lM_29, lM_30, lM_31, lM_38, lM_39, lM_40, lM_41, lM_42, lM_43, lM_44, lM_45, lM_46, lM_47, dX7_stepping_0, st_aload_n, dX7_stepping_1, st_getfield, fl_X7_32, dX7_stepping_4, st_iload_n, dX7_stepping_5, st_iaload, dX7_stepping_6, st_istore_n, dX7_stepping_7, dX7_stepping_8, st_iconst, dX7_stepping_9, st_if_icmp, dX7_stepping_12, dX7_stepping_13, st_bipush, dX7_stepping_15, st_invokevirtual, dX7_stepping_18, dX7_stepping_19, dX7_stepping_21, dX7_stepping_24, dX7_stepping_25, dX7_stepping_27, dX7_stepping_30, dX7_stepping_31, dX7_stepping_32, dX7_stepping_35, dX7_stepping_36, dX7_stepping_37, dX7_stepping_40, dX7_stepping_41, dX7_stepping_43, dX7_stepping_46, dX7_stepping_47, dX7_stepping_49, dX7_stepping_52, dX7_stepping_53, dX7_stepping_54, dX7_stepping_57, dX7_stepping_58, dX7_stepping_59, dX7_stepping_62, dX7_stepping_63, dX7_stepping_64, st_iadd, dX7_stepping_65, dX7_stepping_66, fl_X7_35, dX7_stepping_69, dX7_stepping_70, dX7_stepping_71, dX7_stepping_72, st_goto, dX7_stepping_75, dX7_stepping_76, dX7_stepping_77, dX7_stepping_78, st_istore, dX7_stepping_80, dX7_stepping_81, dX7_stepping_82, dX7_stepping_85, st_iload, dX7_stepping_87, dX7_stepping_88, st_isub, dX7_stepping_89, dX7_stepping_92, dX7_stepping_93, dX7_stepping_95, dX7_stepping_98, dX7_stepping_100, dX7_stepping_101, st_imul, dX7_stepping_102, dX7_stepping_105, dX7_stepping_107, st_ireturn, c_X7_stepping_333, pX7_body_e, fX7_body_e, Option.toList_some, Option.toList_none, List.cons_append, List.nil_append, ofI_4, ofI_51, ofI_6, ofI_70, ofJ_1, ofI_5, ofI_20, ofI_10, ofJ_2, hp1, hp2, hp3, s0, z2]
    rw [ht]
    simp only [hR, fX7_stepping_e]
    rw [hv]
    clear hR hv ht z1 z2 s0 hp3 r0 r1 r2 r3
    generalize σ.1 11 (tn x) = k at *
    generalize σ.1 12 (tn x) = a at *
    grind (splits := 40)
  refine xtoC [(46, xPc (True) [some (.ref 0), some (.int x), some (.int v), some (.int (σ.1 11 (tn x))), none] (sgS σ (σ.1 11 (tn x))))] (xcs_cons (fun _ => h46) xcs_nil) 24 (fun cf hcf => ?_)
  have k46 : cf 46 = some (xPc (True) [some (.ref 0), some (.int x), some (.int v), some (.int (σ.1 11 (tn x))), none] (sgS σ (σ.1 11 (tn x)))) := (hcf 46).trans rfl
  have kn : ∀ pc, ¬ pc = 46 → cf pc = none := fun pc h0 => by rw [hcf, xlk_c, if_neg h0, xlk_n]
  clear hcf
  simp (config := {maxSteps := 4000000, implicitDefEqProofs := false}) only [xwp_2, xwp_0, xwp_1, xws_s, xdd_o, xld_0, xld_s, xs1_0, xs1_1, xs1_s, xs2_0, xs2_1, xs2_s, xlg_n, xlg_i, xlg_r, xlg_z, xlg_l, xf4_0, xf4_1, xf4_2, xf4_3, xgo_e, xcmp_eq, xcmp_ne, xcmp_lt, xcmp_ge, xcmp_gt, xcmp_le, xfg_0, xfg_1, xfg_2, xfg_3, xfg_4, xpop_0, xpop_s, xsw_n, xsw_c, xtb_n, xtb_c, xenp_n, xenp_i, xenp_r, xenp_z, xenp_l, xrep_0, xrep_s, Nat.reduceSub, true_and, and_true, cat_i, cat_r, Nat.reduceAdd, Nat.reduceLT, Nat.reduceLeDiff, Nat.reduceEqDiff, xnc, Int.reduceAdd, Int.reduceSub, Int.reduceNeg, Int.reduceLE, Int.reduceLT, Int.reduceToNat, ↓reduceIte, List.length_cons, List.length_nil, xlc0, xlc1, ite_10, i10, i01, i0_2, i0_3, i0_4, i0_6, i0_7, i0_8, i0_49, i0_10, or_true, true_or, or_false, false_or, not_false_eq_true, not_true_eq_false, xnt, xI_g, eq_self, xI_2, xJ_1, false_and, and_false, obM_t, rMi, vp_tn, tn_def, lgc, nI8, nI6, nI160, nI20, nI401, nI49, aM_6, aM_7, aM_8, aM_9, aM_10, aM_11, aM_12, aM_13, aM_14, aM_15, aM_16, aM_17, aM_18, aM_19, aM_20, aM_21, aM_22, aM_23, aM_24, aM_25, aM_26, aM_27, aM_28, aM_29, aM_30, aM_31, aM_38, aM_39, aM_40, aM_41, aM_42, aM_43, aM_44, aM_45, aM_46, aM_47, lM_6, lM_7, lM_8, lM_9, lM_10, lM_11, lM_12, lM_13, lM_14, lM_15, lM_16, lM_17, lM_18, lM_19, lM_20, lM_21, lM_22, lM_23, lM_24, lM_25, lM_26, lM_27, lM_28, lM_29, lM_30, lM_31, lM_38, lM_39, lM_40, lM_41, lM_42, lM_43, lM_44, lM_45, lM_46, lM_47, dX7_stepping_0, st_aload_n, dX7_stepping_1, st_getfield, fl_X7_32, dX7_stepping_4, st_iload_n, dX7_stepping_5, st_iaload, dX7_stepping_6, st_istore_n, dX7_stepping_7, dX7_stepping_8, st_iconst, dX7_stepping_9, st_if_icmp, dX7_stepping_12, dX7_stepping_13, st_bipush, dX7_stepping_15, st_invokevirtual, dX7_stepping_18, dX7_stepping_19, dX7_stepping_21, dX7_stepping_24, dX7_stepping_25, dX7_stepping_27, dX7_stepping_30, dX7_stepping_31, dX7_stepping_32, dX7_stepping_35, dX7_stepping_36, dX7_stepping_37, dX7_stepping_40, dX7_stepping_41, dX7_stepping_43, dX7_stepping_46, dX7_stepping_47, dX7_stepping_49, dX7_stepping_52, dX7_stepping_53, dX7_stepping_54, dX7_stepping_57, dX7_stepping_58, dX7_stepping_59, dX7_stepping_62, dX7_stepping_63, dX7_stepping_64, st_iadd, dX7_stepping_65, dX7_stepping_66, fl_X7_35, dX7_stepping_69, dX7_stepping_70, dX7_stepping_71, dX7_stepping_72, st_goto, dX7_stepping_75, dX7_stepping_76, dX7_stepping_77, dX7_stepping_78, st_istore, dX7_stepping_80, dX7_stepping_81, dX7_stepping_82, dX7_stepping_85, st_iload, dX7_stepping_87, dX7_stepping_88, st_isub, dX7_stepping_89, dX7_stepping_92, dX7_stepping_93, dX7_stepping_95, dX7_stepping_98, dX7_stepping_100, dX7_stepping_101, st_imul, dX7_stepping_102, dX7_stepping_105, dX7_stepping_107, st_ireturn, c_X7_stepping_333, pX7_body_e, fX7_body_e, Option.toList_some, Option.toList_none, List.cons_append, List.nil_append, ofI_4, ofI_51, ofI_6, ofI_70, ofJ_1, ofI_5, ofI_20, ofI_10, ofJ_2, hp1, hp2, hp3, xwp_s, xcu_s, xcu_n, xPc_e, xsub_0, xsub_n, xsub_s, k46, kn, r0, r1, r2, r3, bdM_48]
  have hS : sgS σ (σ.1 11 (tn x)) = if σ.1 11 (tn x) = 4 then bdM σ 51 else if σ.1 11 (tn x) = 6 then bdM σ 70 else if σ.1 11 (tn x) = 1 ∨ σ.1 11 (tn x) = 5 then bdM σ 20 else σ := rfl
  rw [hS]
  clear hR hS h46 r0 r1 r2 r3 hp3
  generalize σ.1 11 (tn x) = k at *
  grind (splits := 40)
theorem rX7_stepping : ∀ as σ, pX7_stepping as σ → ∃ K as', as = .ref K :: as' ∧ xob WM K 7 := by
  rintro as σ ⟨x, v, rfl, hpre⟩
  exact ⟨_, _, rfl, by first | exact hpre | exact hpre.1 | exact obT hpre | exact obT hpre.1 | exact obS hpre | exact obS hpre.1 | exact obM | exact ob6 | exact ob2 | exact ob0⟩
/-- the bodies ahead of the meeting, and what they make of x -/
def mgS (σ : xS) (k : Int32) : xS := if k = 6 then bdM (bdM σ 71) 40 else if k = 3 ∨ k = 4 then bdM σ 40 else if k = 2 then bdM σ 30 else σ
def mgY (σ : xS) (x v : Int32) : Int32 := if σ.1 11 (tn x) = 6 then v - σ.1 12 (tn x) + 1 else if σ.1 11 (tn x) = 3 ∨ σ.1 11 (tn x) = 4 then v + 1 else v
def mg1 (σ : xS) (x : Int32) : xS := bdM (mgS σ (σ.1 11 (tn x))) 11
def mgV (σ : xS) (x v : Int32) : Int32 := if σ.1 11 (tn x) = 2 then sgV (mg1 σ x) x (mgY σ x v) * 2 * 3 else sgV (mg1 σ x) x (mgY σ x v) * 2
def mgT (σ : xS) (x : Int32) : xS := sgT (mg1 σ x) x
theorem mgS_o {σ : xS} {k : Int32} {a c : Nat} (h : a ≠ 0 ∧ a ≠ 47 ∨ a = 0 ∧ c ≠ 48) : (mgS σ k).1 a c = σ.1 a c := by
  unfold mgS
  split
  · rw [bdM_o h, bdM_o h]
  · split
    · exact bdM_o h
    · split
      · exact bdM_o h
      · rfl
theorem mg1_o {σ : xS} {x : Int32} {a c : Nat} (h : a ≠ 0 ∧ a ≠ 47 ∨ a = 0 ∧ c ≠ 48) : (mg1 σ x).1 a c = σ.1 a c := by
  unfold mg1
  rw [bdM_o h, mgS_o h]
theorem mgT_o {σ : xS} {x : Int32} {a c : Nat} (h : a ≠ 0 ∧ a ≠ 47 ∨ a = 0 ∧ c ≠ 48) : (mgT σ x).1 a c = σ.1 a c := by
  unfold mgT
  rw [sgT_o h, mg1_o h]
theorem mgS_r {σ : xS} {k : Int32} {n : Int} (hn : n < 900) (h : rnP n (σ.1 0 48)) : rnP (n + 2) ((mgS σ k).1 0 48) := by
  have h1 := rnP_s (by omega) h
  have h2 := rnP_s (by omega) h1
  have w1 : ∀ {y : Int32}, rnP (n + 1) y → rnP (n + 2) y := fun q => ⟨q.1, by have := q.2; omega⟩
  have w0 : ∀ {y : Int32}, rnP n y → rnP (n + 2) y := fun q => ⟨q.1, by have := q.2; omega⟩
  unfold mgS
  split
  · rw [bdM_48, bdM_48, show n + 2 = n + 1 + 1 by omega]; exact h2
  · split
    · rw [bdM_48]; exact w1 h1
    · split
      · rw [bdM_48]; exact w1 h1
      · exact w0 h
theorem mg1_r {σ : xS} {x : Int32} {n : Int} (hn : n < 800) (h : rnP n (σ.1 0 48)) : rnP (n + 3) ((mg1 σ x).1 0 48) := by
  unfold mg1
  rw [bdM_48, show n + 3 = n + 2 + 1 by omega]
  exact rnP_s (by omega) (mgS_r (by omega) h)
theorem mgT_r {σ : xS} {x : Int32} {n : Int} (hn : n < 700) (h : rnP n (σ.1 0 48)) : rnP (n + 5) ((mgT σ x).1 0 48) := by
  unfold mgT
  rw [show n + 5 = n + 3 + 2 by omega]
  exact sgT_r (by omega) (mg1_r (by omega) h)
theorem rnP_w {n m : Int} {x : Int32} (h : rnP n x) (hm : n ≤ m) : rnP m x := ⟨h.1, by have := h.2; omega⟩
def pX7_meeting (as : List Value) (σ : xS) : Prop := ∃ (x : Int32) (v : Int32), as = [.ref 0, .int x, .int v] ∧ ((0 ≤ x) ∧ (tn x < 6) ∧ (rnP 10 (σ.1 0 48)))
def fX7_meeting (as : List Value) (σ : xS) : Option Value × xS := match as with
  | [.ref 0, .int x, .int v] => (some (.int (mgV σ x v)), mgT σ x)
  | _ => (none, σ)
theorem pX7_meeting_e {x : Int32} {v : Int32} {σ : xS} : pX7_meeting [.ref 0, .int x, .int v] σ = ((0 ≤ x) ∧ (tn x < 6) ∧ (rnP 10 (σ.1 0 48))) := propext ⟨fun h => by obtain ⟨x, v, e, h⟩ := h; cases e; exact h, fun h => ⟨x, v, rfl, h⟩⟩
theorem fX7_meeting_e {x : Int32} {v : Int32} {σ : xS} : fX7_meeting [.ref 0, .int x, .int v] σ = (some (.int (mgV σ x v)), mgT σ x) := rfl
def calX7_meeting : List (Nat × xCall) := [(333, (false, 2, pX7_body, fX7_body)), (143, (false, 2, pX7_isTaker, fX7_isTaker)), (336, (false, 3, pX7_stepping, fX7_stepping))]
theorem c_X7_meeting_333 : xlk calX7_meeting 333 = some (false, 2, pX7_body, fX7_body) := rfl
theorem c_X7_meeting_143 : xlk calX7_meeting 143 = some (false, 2, pX7_isTaker, fX7_isTaker) := rfl
theorem c_X7_meeting_336 : xlk calX7_meeting 336 = some (false, 3, pX7_stepping, fX7_stepping) := rfl
set_option maxHeartbeats 4000000 in
set_option maxRecDepth 100000 in
theorem mX7_meeting : xMet WM yX7_meeting cX7_meeting 6 (some .int) 3 pX7_meeting fX7_meeting := by
  refine xMet_of (fld := xlk fldX7) (cal := xlk calX7_meeting) (ks := xlk []) (gs := xlk []) (ro := fun _ => none) 0 (by decide) WM_nd rfl fldX7_ok xKs_nil xGs_nil (Or.inr rfl) (xcal_cons (xCk_V mX7_body 7 (by decide) (by decide) (by decide) rfl (fun as σ h _ => rX7_body as σ h) w_X7_333 ⟨by decide, by decide, by decide +kernel⟩) (xcal_cons (xCk_V mX7_isTaker 7 (by decide) (by decide) (by decide) rfl (fun as σ h _ => rX7_isTaker as σ h) w_X7_143 ⟨by decide, by decide, by decide +kernel⟩) (xcal_cons (xCk_V mX7_stepping 7 (by decide) (by decide) (by decide) rfl (fun as σ h _ => rX7_stepping as σ h) w_X7_336 ⟨by decide, by decide, by decide +kernel⟩) xcal_nil))) ?_ ?_
  · rintro av σ ⟨x, v, rfl, hpre⟩
    exact Nat.le_of_ble_eq_true rfl
  rintro av σ ⟨x, v, rfl, ⟨hp1, hp2, hp3⟩⟩ Rt hR
  have r0 := rnP_0 hp3
  have r1 := rnP_0 (rnP_s (by omega) hp3)
  have r2 := rnP_0 (rnP_s (by omega) (rnP_s (by omega) hp3))
  have r3 := rnP_0 (rnP_s (by omega) (rnP_s (by omega) (rnP_s (by omega) hp3)))
  have h61 : xGo WM 6 (xlk fldX7) (xlk calX7_meeting) (xlk []) (xlk []) (fun _ => none) 0 cX7_meeting Rt 61 [some (.ref 0), some (.int x), some (.int v), some (.int (σ.1 11 (tn x))), some (.int (mgY σ x v)), none] [] (mgS σ (σ.1 11 (tn x))) := by
    have s0 := rnP_0 (mgS_r (k := σ.1 11 (tn x)) (by omega) hp3)
    have s1 : rnP 20 ((bdM (mgS σ (σ.1 11 (tn x))) 11).1 0 48) := rnP_w (mg1_r (x := x) (by omega) hp3) (by omega)
    have hv : mgV σ x v = if σ.1 11 (tn x) = 2 then sgV (mg1 σ x) x (mgY σ x v) * 2 * 3 else sgV (mg1 σ x) x (mgY σ x v) * 2 := rfl
    have ht : sgT (bdM (mgS σ (σ.1 11 (tn x))) 11) x = mgT σ x := rfl
    have hu : sgV (bdM (mgS σ (σ.1 11 (tn x))) 11) x (mgY σ x v) = sgV (mg1 σ x) x (mgY σ x v) := rfl
    refine xgo0 30 ?_
    simp -implicitDefEqProofs only [xwp_2, xwp_0, xwp_1, xws_s, xdd_o, xld_0, xld_s, xs1_0, xs1_1, xs1_s, xs2_0, xs2_1, xs2_s, xlg_n, xlg_i, xlg_r, xlg_z, xlg_l, xf4_0, xf4_1, xf4_2, xf4_3, xgo_e, xcmp_eq, xcmp_ne, xcmp_lt, xcmp_ge, xcmp_gt, xcmp_le, xfg_0, xfg_1, xfg_2, xfg_3, xfg_4, xpop_0, xpop_s, xsw_n, xsw_c, xtb_n, xtb_c, xenp_n, xenp_i, xenp_r, xenp_z, xenp_l, xrep_0, xrep_s, Nat.reduceSub, true_and, and_true, cat_i, cat_r, Nat.reduceAdd, Nat.reduceLT, Nat.reduceLeDiff, Nat.reduceEqDiff, xnc, Int.reduceAdd, Int.reduceSub, Int.reduceNeg, Int.reduceLE, Int.reduceLT, Int.reduceToNat, ↓reduceIte, List.length_cons, List.length_nil, xlc0, xlc1, ite_10, i10, i01, i0_2, i0_3, i0_4, i0_6, i0_7, i0_8, i0_49, i0_10, or_true, true_or, or_false, false_or, not_false_eq_true, not_true_eq_false, xnt, xI_g, eq_self, xI_2, xJ_1, false_and, and_false, obM_t, rMi, vp_tn, tn_def, lgc, nI8, nI6, nI160, nI20, nI401, nI49, aM_6, aM_7, aM_8, aM_9, aM_10, aM_11, aM_12, aM_13, aM_14, aM_15, aM_16, aM_17, aM_18, aM_19, aM_20, aM_21, aM_22, aM_23, aM_24, aM_25, aM_26, aM_27, aM_28, aM_29, aM_30, aM_31, aM_38, aM_39, aM_40, aM_41, aM_42, aM_43, aM_44, aM_45, aM_46, aM_47, lM_6, lM_7, lM_8, lM_9, lM_10, lM_11, lM_12, lM_13, lM_14, lM_15, lM_16, lM_17, lM_18, lM_19, lM_20, lM_21, lM_22, lM_23, lM_24, lM_25, lM_26, lM_27, lM_28, lM_29, lM_30, lM_31, lM_38, lM_39, lM_40, lM_41, lM_42, lM_43, lM_44, lM_45, lM_46, lM_47, dX7_meeting_0, st_aload_n, dX7_meeting_1, st_getfield, fl_X7_32, dX7_meeting_4, st_iload_n, dX7_meeting_5, st_iaload, dX7_meeting_6, st_istore_n, dX7_meeting_7, dX7_meeting_8, st_istore, dX7_meeting_10, dX7_meeting_11, st_bipush, dX7_meeting_13, st_if_icmp, dX7_meeting_16, dX7_meeting_17, dX7_meeting_19, st_invokevirtual, dX7_meeting_22, st_iload, dX7_meeting_24, dX7_meeting_25, fl_X7_35, dX7_meeting_28, dX7_meeting_29, dX7_meeting_30, st_isub, dX7_meeting_31, dX7_meeting_33, dX7_meeting_34, dX7_meeting_35, dX7_meeting_38, st_ifCond, dX7_meeting_41, dX7_meeting_42, dX7_meeting_44, dX7_meeting_47, st_iinc, dX7_meeting_50, dX7_meeting_51, st_iconst, dX7_meeting_52, dX7_meeting_55, dX7_meeting_56, dX7_meeting_58, dX7_meeting_61, dX7_meeting_62, dX7_meeting_64, dX7_meeting_67, dX7_meeting_68, dX7_meeting_69, dX7_meeting_71, dX7_meeting_74, dX7_meeting_75, st_imul, dX7_meeting_76, dX7_meeting_78, dX7_meeting_79, dX7_meeting_80, dX7_meeting_83, dX7_meeting_85, dX7_meeting_86, dX7_meeting_87, st_goto, dX7_meeting_90, dX7_meeting_92, st_ireturn, c_X7_meeting_333, pX7_body_e, fX7_body_e, Option.toList_some, Option.toList_none, List.cons_append, List.nil_append, c_X7_meeting_143, pX7_isTaker_e, fX7_isTaker_e, c_X7_meeting_336, pX7_stepping_e, fX7_stepping_e, ofI_6, ofI_71, ofI_40, ofJ_1, ofJ_2, ofI_30, ofI_11, ofJ_3, hp1, hp2, hp3, s0, s1]
    rw [ht, hu]
    simp only [hR, fX7_meeting_e]
    rw [hv]
    clear hR hv ht hu s0 s1 hp3 r0 r1 r2 r3
    generalize σ.1 11 (tn x) = k at *
    generalize sgV (mg1 σ x) x (mgY σ x v) = a at *
    grind (splits := 40)
  have z12 : ∀ b, (bdM σ b).1 12 (tn x) = σ.1 12 (tn x) := fun b => bdM_o (by omega)
  refine xtoC [(61, xPc (True) [some (.ref 0), some (.int x), some (.int v), some (.int (σ.1 11 (tn x))), some (.int (mgY σ x v)), none] (mgS σ (σ.1 11 (tn x))))] (xcs_cons (fun _ => h61) xcs_nil) 36 (fun cf hcf => ?_)
  have k61 : cf 61 = some (xPc (True) [some (.ref 0), some (.int x), some (.int v), some (.int (σ.1 11 (tn x))), some (.int (mgY σ x v)), none] (mgS σ (σ.1 11 (tn x)))) := (hcf 61).trans rfl
  have kn : ∀ pc, ¬ pc = 61 → cf pc = none := fun pc h0 => by rw [hcf, xlk_c, if_neg h0, xlk_n]
  clear hcf
  simp (config := {maxSteps := 4000000, implicitDefEqProofs := false}) only [xwp_2, xwp_0, xwp_1, xws_s, xdd_o, xld_0, xld_s, xs1_0, xs1_1, xs1_s, xs2_0, xs2_1, xs2_s, xlg_n, xlg_i, xlg_r, xlg_z, xlg_l, xf4_0, xf4_1, xf4_2, xf4_3, xgo_e, xcmp_eq, xcmp_ne, xcmp_lt, xcmp_ge, xcmp_gt, xcmp_le, xfg_0, xfg_1, xfg_2, xfg_3, xfg_4, xpop_0, xpop_s, xsw_n, xsw_c, xtb_n, xtb_c, xenp_n, xenp_i, xenp_r, xenp_z, xenp_l, xrep_0, xrep_s, Nat.reduceSub, true_and, and_true, cat_i, cat_r, Nat.reduceAdd, Nat.reduceLT, Nat.reduceLeDiff, Nat.reduceEqDiff, xnc, Int.reduceAdd, Int.reduceSub, Int.reduceNeg, Int.reduceLE, Int.reduceLT, Int.reduceToNat, ↓reduceIte, List.length_cons, List.length_nil, xlc0, xlc1, ite_10, i10, i01, i0_2, i0_3, i0_4, i0_6, i0_7, i0_8, i0_49, i0_10, or_true, true_or, or_false, false_or, not_false_eq_true, not_true_eq_false, xnt, xI_g, eq_self, xI_2, xJ_1, false_and, and_false, obM_t, rMi, vp_tn, tn_def, lgc, nI8, nI6, nI160, nI20, nI401, nI49, aM_6, aM_7, aM_8, aM_9, aM_10, aM_11, aM_12, aM_13, aM_14, aM_15, aM_16, aM_17, aM_18, aM_19, aM_20, aM_21, aM_22, aM_23, aM_24, aM_25, aM_26, aM_27, aM_28, aM_29, aM_30, aM_31, aM_38, aM_39, aM_40, aM_41, aM_42, aM_43, aM_44, aM_45, aM_46, aM_47, lM_6, lM_7, lM_8, lM_9, lM_10, lM_11, lM_12, lM_13, lM_14, lM_15, lM_16, lM_17, lM_18, lM_19, lM_20, lM_21, lM_22, lM_23, lM_24, lM_25, lM_26, lM_27, lM_28, lM_29, lM_30, lM_31, lM_38, lM_39, lM_40, lM_41, lM_42, lM_43, lM_44, lM_45, lM_46, lM_47, dX7_meeting_0, st_aload_n, dX7_meeting_1, st_getfield, fl_X7_32, dX7_meeting_4, st_iload_n, dX7_meeting_5, st_iaload, dX7_meeting_6, st_istore_n, dX7_meeting_7, dX7_meeting_8, st_istore, dX7_meeting_10, dX7_meeting_11, st_bipush, dX7_meeting_13, st_if_icmp, dX7_meeting_16, dX7_meeting_17, dX7_meeting_19, st_invokevirtual, dX7_meeting_22, st_iload, dX7_meeting_24, dX7_meeting_25, fl_X7_35, dX7_meeting_28, dX7_meeting_29, dX7_meeting_30, st_isub, dX7_meeting_31, dX7_meeting_33, dX7_meeting_34, dX7_meeting_35, dX7_meeting_38, st_ifCond, dX7_meeting_41, dX7_meeting_42, dX7_meeting_44, dX7_meeting_47, st_iinc, dX7_meeting_50, dX7_meeting_51, st_iconst, dX7_meeting_52, dX7_meeting_55, dX7_meeting_56, dX7_meeting_58, dX7_meeting_61, dX7_meeting_62, dX7_meeting_64, dX7_meeting_67, dX7_meeting_68, dX7_meeting_69, dX7_meeting_71, dX7_meeting_74, dX7_meeting_75, st_imul, dX7_meeting_76, dX7_meeting_78, dX7_meeting_79, dX7_meeting_80, dX7_meeting_83, dX7_meeting_85, dX7_meeting_86, dX7_meeting_87, st_goto, dX7_meeting_90, dX7_meeting_92, st_ireturn, c_X7_meeting_333, pX7_body_e, fX7_body_e, Option.toList_some, Option.toList_none, List.cons_append, List.nil_append, c_X7_meeting_143, pX7_isTaker_e, fX7_isTaker_e, c_X7_meeting_336, pX7_stepping_e, fX7_stepping_e, ofI_6, ofI_71, ofI_40, ofJ_1, ofJ_2, ofI_30, ofI_11, ofJ_3, hp1, hp2, hp3, xwp_s, xcu_s, xcu_n, xPc_e, xsub_0, xsub_n, xsub_s, k61, kn, r0, r1, r2, r3, bdM_48, z12]
  have hS : mgS σ (σ.1 11 (tn x)) = if σ.1 11 (tn x) = 6 then bdM (bdM σ 71) 40 else if σ.1 11 (tn x) = 3 ∨ σ.1 11 (tn x) = 4 then bdM σ 40 else if σ.1 11 (tn x) = 2 then bdM σ 30 else σ := rfl
  have hY : mgY σ x v = if σ.1 11 (tn x) = 6 then v - σ.1 12 (tn x) + 1 else if σ.1 11 (tn x) = 3 ∨ σ.1 11 (tn x) = 4 then v + 1 else v := rfl
  rw [hS, hY]
  clear hR hS hY h61 r0 r1 r2 r3 hp3 z12
  generalize σ.1 12 (tn x) = a at *
  generalize σ.1 11 (tn x) = k at *
  grind (splits := 40)
theorem rX7_meeting : ∀ as σ, pX7_meeting as σ → ∃ K as', as = .ref K :: as' ∧ xob WM K 7 := by
  rintro as σ ⟨x, v, rfl, hpre⟩
  exact ⟨_, _, rfl, by first | exact hpre | exact hpre.1 | exact obT hpre | exact obT hpre.1 | exact obS hpre | exact obS hpre.1 | exact obM | exact ob6 | exact ob2 | exact ob0⟩
/-- the bodies ahead of the taking -/
def tgS (σ : xS) (k : Int32) : xS := if k = 4 then bdM σ 50 else if k = 5 then bdM σ 60 else σ
def tg1 (σ : xS) (x : Int32) : xS := bdM (tgS σ (σ.1 11 (tn x))) 12
def tgW (σ : xS) (x v : Int32) : Int32 := mgV (tg1 σ x) x v ^^^ sgV (mgT (tg1 σ x) x) x (v - σ.1 12 (tn x))
def tgV (σ : xS) (x v : Int32) : Int32 := if σ.1 11 (tn x) = 4 then -(tgW σ x v) else if σ.1 11 (tn x) = 5 then tgW σ x v ^^^ 5 else tgW σ x v
def tgT (σ : xS) (x : Int32) : xS := sgT (mgT (tg1 σ x) x) x
theorem tgS_o {σ : xS} {k : Int32} {a c : Nat} (h : a ≠ 0 ∧ a ≠ 47 ∨ a = 0 ∧ c ≠ 48) : (tgS σ k).1 a c = σ.1 a c := by
  unfold tgS
  split
  · exact bdM_o h
  · split
    · exact bdM_o h
    · rfl
theorem tg1_o {σ : xS} {x : Int32} {a c : Nat} (h : a ≠ 0 ∧ a ≠ 47 ∨ a = 0 ∧ c ≠ 48) : (tg1 σ x).1 a c = σ.1 a c := by
  unfold tg1
  rw [bdM_o h, tgS_o h]
theorem tgS_r {σ : xS} {k : Int32} {n : Int} (hn : n < 900) (h : rnP n (σ.1 0 48)) : rnP (n + 1) ((tgS σ k).1 0 48) := by
  unfold tgS
  split
  · rw [bdM_48]; exact rnP_s (by omega) h
  · split
    · rw [bdM_48]; exact rnP_s (by omega) h
    · exact rnP_w h (by omega)
theorem tg1_r {σ : xS} {x : Int32} {n : Int} (hn : n < 800) (h : rnP n (σ.1 0 48)) : rnP (n + 2) ((tg1 σ x).1 0 48) := by
  unfold tg1
  rw [bdM_48, show n + 2 = n + 1 + 1 by omega]
  exact rnP_s (by omega) (tgS_r (by omega) h)
def actM (σ : xS) (x a v : Int32) : Int32 × xS := if ¬ (0 ≤ x ∧ x < σ.1 0 1) ∨ a < 0 ∨ 2 < a then (0, xI σ 0 48 0) else if a = 0 then (sgV (xI σ 0 48 0) x v, sgT (xI σ 0 48 0) x) else if a = 1 then (mgV (xI σ 0 48 0) x v, mgT (xI σ 0 48 0) x) else (tgV (xI σ 0 48 0) x v, tgT (xI σ 0 48 0) x)
theorem rnP_z {n : Int} (h : 0 ≤ n) : rnP n 0 := ⟨by rw [t_0]; omega, by rw [t_0]; exact h⟩
def pX7_taking (as : List Value) (σ : xS) : Prop := ∃ (x : Int32) (v : Int32), as = [.ref 0, .int x, .int v] ∧ ((0 ≤ x) ∧ (tn x < 6) ∧ (rnP 5 (σ.1 0 48)))
def fX7_taking (as : List Value) (σ : xS) : Option Value × xS := match as with
  | [.ref 0, .int x, .int v] => (some (.int (tgV σ x v)), tgT σ x)
  | _ => (none, σ)
theorem pX7_taking_e {x : Int32} {v : Int32} {σ : xS} : pX7_taking [.ref 0, .int x, .int v] σ = ((0 ≤ x) ∧ (tn x < 6) ∧ (rnP 5 (σ.1 0 48))) := propext ⟨fun h => by obtain ⟨x, v, e, h⟩ := h; cases e; exact h, fun h => ⟨x, v, rfl, h⟩⟩
theorem fX7_taking_e {x : Int32} {v : Int32} {σ : xS} : fX7_taking [.ref 0, .int x, .int v] σ = (some (.int (tgV σ x v)), tgT σ x) := rfl
def calX7_taking : List (Nat × xCall) := [(333, (false, 2, pX7_body, fX7_body)), (339, (false, 3, pX7_meeting, fX7_meeting)), (336, (false, 3, pX7_stepping, fX7_stepping))]
theorem c_X7_taking_333 : xlk calX7_taking 333 = some (false, 2, pX7_body, fX7_body) := rfl
theorem c_X7_taking_339 : xlk calX7_taking 339 = some (false, 3, pX7_meeting, fX7_meeting) := rfl
theorem c_X7_taking_336 : xlk calX7_taking 336 = some (false, 3, pX7_stepping, fX7_stepping) := rfl
set_option maxHeartbeats 4000000 in
set_option maxRecDepth 100000 in
theorem mX7_taking : xMet WM yX7_taking cX7_taking 5 (some .int) 4 pX7_taking fX7_taking := by
  refine xMet_of (fld := xlk fldX7) (cal := xlk calX7_taking) (ks := xlk []) (gs := xlk []) (ro := fun _ => none) 0 (by decide) WM_nd rfl fldX7_ok xKs_nil xGs_nil (Or.inr rfl) (xcal_cons (xCk_V mX7_body 7 (by decide) (by decide) (by decide) rfl (fun as σ h _ => rX7_body as σ h) w_X7_333 ⟨by decide, by decide, by decide +kernel⟩) (xcal_cons (xCk_V mX7_meeting 7 (by decide) (by decide) (by decide) rfl (fun as σ h _ => rX7_meeting as σ h) w_X7_339 ⟨by decide, by decide, by decide +kernel⟩) (xcal_cons (xCk_V mX7_stepping 7 (by decide) (by decide) (by decide) rfl (fun as σ h _ => rX7_stepping as σ h) w_X7_336 ⟨by decide, by decide, by decide +kernel⟩) xcal_nil))) ?_ ?_
  · rintro av σ ⟨x, v, rfl, hpre⟩
    exact Nat.le_of_ble_eq_true rfl
  rintro av σ ⟨x, v, rfl, ⟨hp1, hp2, hp3⟩⟩ Rt hR
  have r0 := rnP_0 hp3
  have r1 := rnP_0 (rnP_s (by omega) hp3)
  have r2 := rnP_0 (rnP_s (by omega) (rnP_s (by omega) hp3))
  have h29 : xGo WM 5 (xlk fldX7) (xlk calX7_taking) (xlk []) (xlk []) (fun _ => none) 0 cX7_taking Rt 29 [some (.ref 0), some (.int x), some (.int v), some (.int (σ.1 11 (tn x))), none] [] (tgS σ (σ.1 11 (tn x))) := by
    have s0 := rnP_0 (tgS_r (k := σ.1 11 (tn x)) (by omega) hp3)
    have s1 : rnP 10 ((tg1 σ x).1 0 48) := rnP_w (tg1_r (x := x) (by omega) hp3) (by omega)
    have s2 : rnP 20 ((mgT (tg1 σ x) x).1 0 48) := rnP_w (mgT_r (x := x) (by omega) (tg1_r (x := x) (by omega) hp3)) (by omega)
    have f1 : bdM (tgS σ (σ.1 11 (tn x))) 12 = tg1 σ x := rfl
    have z1 : (mgT (tg1 σ x) x).1 12 (tn x) = σ.1 12 (tn x) := by rw [mgT_o (by omega), tg1_o (by omega)]
    have hw : mgV (tg1 σ x) x v ^^^ sgV (mgT (tg1 σ x) x) x (v - σ.1 12 (tn x)) = tgW σ x v := rfl
    have hv : tgV σ x v = if σ.1 11 (tn x) = 4 then -(tgW σ x v) else if σ.1 11 (tn x) = 5 then tgW σ x v ^^^ 5 else tgW σ x v := rfl
    have ht : sgT (mgT (tg1 σ x) x) x = tgT σ x := rfl
    refine xgo0 34 ?_
    simp -implicitDefEqProofs only [xwp_2, xwp_0, xwp_1, xws_s, xdd_o, xld_0, xld_s, xs1_0, xs1_1, xs1_s, xs2_0, xs2_1, xs2_s, xlg_n, xlg_i, xlg_r, xlg_z, xlg_l, xf4_0, xf4_1, xf4_2, xf4_3, xgo_e, xcmp_eq, xcmp_ne, xcmp_lt, xcmp_ge, xcmp_gt, xcmp_le, xfg_0, xfg_1, xfg_2, xfg_3, xfg_4, xpop_0, xpop_s, xsw_n, xsw_c, xtb_n, xtb_c, xenp_n, xenp_i, xenp_r, xenp_z, xenp_l, xrep_0, xrep_s, Nat.reduceSub, true_and, and_true, cat_i, cat_r, Nat.reduceAdd, Nat.reduceLT, Nat.reduceLeDiff, Nat.reduceEqDiff, xnc, Int.reduceAdd, Int.reduceSub, Int.reduceNeg, Int.reduceLE, Int.reduceLT, Int.reduceToNat, ↓reduceIte, List.length_cons, List.length_nil, xlc0, xlc1, ite_10, i10, i01, i0_2, i0_3, i0_4, i0_6, i0_7, i0_8, i0_49, i0_10, or_true, true_or, or_false, false_or, not_false_eq_true, not_true_eq_false, xnt, xI_g, eq_self, xI_2, xJ_1, false_and, and_false, obM_t, rMi, vp_tn, tn_def, lgc, nI8, nI6, nI160, nI20, nI401, nI49, aM_6, aM_7, aM_8, aM_9, aM_10, aM_11, aM_12, aM_13, aM_14, aM_15, aM_16, aM_17, aM_18, aM_19, aM_20, aM_21, aM_22, aM_23, aM_24, aM_25, aM_26, aM_27, aM_28, aM_29, aM_30, aM_31, aM_38, aM_39, aM_40, aM_41, aM_42, aM_43, aM_44, aM_45, aM_46, aM_47, lM_6, lM_7, lM_8, lM_9, lM_10, lM_11, lM_12, lM_13, lM_14, lM_15, lM_16, lM_17, lM_18, lM_19, lM_20, lM_21, lM_22, lM_23, lM_24, lM_25, lM_26, lM_27, lM_28, lM_29, lM_30, lM_31, lM_38, lM_39, lM_40, lM_41, lM_42, lM_43, lM_44, lM_45, lM_46, lM_47, dX7_taking_0, st_aload_n, dX7_taking_1, st_getfield, fl_X7_32, dX7_taking_4, st_iload_n, dX7_taking_5, st_iaload, dX7_taking_6, st_istore_n, dX7_taking_7, dX7_taking_8, st_iconst, dX7_taking_9, st_if_icmp, dX7_taking_12, dX7_taking_13, st_bipush, dX7_taking_15, st_invokevirtual, dX7_taking_18, dX7_taking_19, dX7_taking_20, dX7_taking_23, dX7_taking_24, dX7_taking_26, dX7_taking_29, dX7_taking_30, dX7_taking_32, dX7_taking_35, dX7_taking_36, dX7_taking_37, dX7_taking_38, dX7_taking_41, st_istore, dX7_taking_43, st_iload, dX7_taking_45, dX7_taking_46, dX7_taking_47, dX7_taking_48, dX7_taking_49, fl_X7_35, dX7_taking_52, dX7_taking_53, dX7_taking_54, st_isub, dX7_taking_55, dX7_taking_58, st_ixor, dX7_taking_59, dX7_taking_61, dX7_taking_62, dX7_taking_63, dX7_taking_66, dX7_taking_68, st_ineg, dX7_taking_69, st_goto, dX7_taking_72, dX7_taking_73, dX7_taking_74, dX7_taking_77, dX7_taking_79, dX7_taking_80, dX7_taking_81, dX7_taking_84, dX7_taking_86, st_ireturn, c_X7_taking_333, pX7_body_e, fX7_body_e, Option.toList_some, Option.toList_none, List.cons_append, List.nil_append, c_X7_taking_339, pX7_meeting_e, fX7_meeting_e, c_X7_taking_336, pX7_stepping_e, fX7_stepping_e, ofI_4, ofI_50, ofI_5, ofI_60, ofI_12, hp1, hp2, hp3, s0, s1, s2, f1, z1, hw, ht]
    simp only [hR, fX7_taking_e]
    rw [hv]
    clear hR hv ht hw f1 s0 s1 s2 z1 hp3 r0 r1 r2
    generalize σ.1 11 (tn x) = k at *
    generalize tgW σ x v = a at *
    grind (splits := 40)
  refine xtoC [(29, xPc (True) [some (.ref 0), some (.int x), some (.int v), some (.int (σ.1 11 (tn x))), none] (tgS σ (σ.1 11 (tn x))))] (xcs_cons (fun _ => h29) xcs_nil) 20 (fun cf hcf => ?_)
  have k29 : cf 29 = some (xPc (True) [some (.ref 0), some (.int x), some (.int v), some (.int (σ.1 11 (tn x))), none] (tgS σ (σ.1 11 (tn x)))) := (hcf 29).trans rfl
  have kn : ∀ pc, ¬ pc = 29 → cf pc = none := fun pc h0 => by rw [hcf, xlk_c, if_neg h0, xlk_n]
  clear hcf
  simp (config := {maxSteps := 4000000, implicitDefEqProofs := false}) only [xwp_2, xwp_0, xwp_1, xws_s, xdd_o, xld_0, xld_s, xs1_0, xs1_1, xs1_s, xs2_0, xs2_1, xs2_s, xlg_n, xlg_i, xlg_r, xlg_z, xlg_l, xf4_0, xf4_1, xf4_2, xf4_3, xgo_e, xcmp_eq, xcmp_ne, xcmp_lt, xcmp_ge, xcmp_gt, xcmp_le, xfg_0, xfg_1, xfg_2, xfg_3, xfg_4, xpop_0, xpop_s, xsw_n, xsw_c, xtb_n, xtb_c, xenp_n, xenp_i, xenp_r, xenp_z, xenp_l, xrep_0, xrep_s, Nat.reduceSub, true_and, and_true, cat_i, cat_r, Nat.reduceAdd, Nat.reduceLT, Nat.reduceLeDiff, Nat.reduceEqDiff, xnc, Int.reduceAdd, Int.reduceSub, Int.reduceNeg, Int.reduceLE, Int.reduceLT, Int.reduceToNat, ↓reduceIte, List.length_cons, List.length_nil, xlc0, xlc1, ite_10, i10, i01, i0_2, i0_3, i0_4, i0_6, i0_7, i0_8, i0_49, i0_10, or_true, true_or, or_false, false_or, not_false_eq_true, not_true_eq_false, xnt, xI_g, eq_self, xI_2, xJ_1, false_and, and_false, obM_t, rMi, vp_tn, tn_def, lgc, nI8, nI6, nI160, nI20, nI401, nI49, aM_6, aM_7, aM_8, aM_9, aM_10, aM_11, aM_12, aM_13, aM_14, aM_15, aM_16, aM_17, aM_18, aM_19, aM_20, aM_21, aM_22, aM_23, aM_24, aM_25, aM_26, aM_27, aM_28, aM_29, aM_30, aM_31, aM_38, aM_39, aM_40, aM_41, aM_42, aM_43, aM_44, aM_45, aM_46, aM_47, lM_6, lM_7, lM_8, lM_9, lM_10, lM_11, lM_12, lM_13, lM_14, lM_15, lM_16, lM_17, lM_18, lM_19, lM_20, lM_21, lM_22, lM_23, lM_24, lM_25, lM_26, lM_27, lM_28, lM_29, lM_30, lM_31, lM_38, lM_39, lM_40, lM_41, lM_42, lM_43, lM_44, lM_45, lM_46, lM_47, dX7_taking_0, st_aload_n, dX7_taking_1, st_getfield, fl_X7_32, dX7_taking_4, st_iload_n, dX7_taking_5, st_iaload, dX7_taking_6, st_istore_n, dX7_taking_7, dX7_taking_8, st_iconst, dX7_taking_9, st_if_icmp, dX7_taking_12, dX7_taking_13, st_bipush, dX7_taking_15, st_invokevirtual, dX7_taking_18, dX7_taking_19, dX7_taking_20, dX7_taking_23, dX7_taking_24, dX7_taking_26, dX7_taking_29, dX7_taking_30, dX7_taking_32, dX7_taking_35, dX7_taking_36, dX7_taking_37, dX7_taking_38, dX7_taking_41, st_istore, dX7_taking_43, st_iload, dX7_taking_45, dX7_taking_46, dX7_taking_47, dX7_taking_48, dX7_taking_49, fl_X7_35, dX7_taking_52, dX7_taking_53, dX7_taking_54, st_isub, dX7_taking_55, dX7_taking_58, st_ixor, dX7_taking_59, dX7_taking_61, dX7_taking_62, dX7_taking_63, dX7_taking_66, dX7_taking_68, st_ineg, dX7_taking_69, st_goto, dX7_taking_72, dX7_taking_73, dX7_taking_74, dX7_taking_77, dX7_taking_79, dX7_taking_80, dX7_taking_81, dX7_taking_84, dX7_taking_86, st_ireturn, c_X7_taking_333, pX7_body_e, fX7_body_e, Option.toList_some, Option.toList_none, List.cons_append, List.nil_append, c_X7_taking_339, pX7_meeting_e, fX7_meeting_e, c_X7_taking_336, pX7_stepping_e, fX7_stepping_e, ofI_4, ofI_50, ofI_5, ofI_60, ofI_12, hp1, hp2, hp3, xwp_s, xcu_s, xcu_n, xPc_e, xsub_0, xsub_n, xsub_s, k29, kn, r0, r1, r2, bdM_48]
  have hS : tgS σ (σ.1 11 (tn x)) = if σ.1 11 (tn x) = 4 then bdM σ 50 else if σ.1 11 (tn x) = 5 then bdM σ 60 else σ := rfl
  rw [hS]
  clear hR hS h29 r0 r1 r2 hp3
  generalize σ.1 11 (tn x) = k at *
  grind (splits := 40)
theorem rX7_taking : ∀ as σ, pX7_taking as σ → ∃ K as', as = .ref K :: as' ∧ xob WM K 7 := by
  rintro as σ ⟨x, v, rfl, hpre⟩
  exact ⟨_, _, rfl, by first | exact hpre | exact hpre.1 | exact obT hpre | exact obT hpre.1 | exact obS hpre | exact obS hpre.1 | exact obM | exact ob6 | exact ob2 | exact ob0⟩
def pX7_act (as : List Value) (σ : xS) : Prop := ∃ (x : Int32) (a : Int32) (v : Int32), as = [.ref 0, .int x, .int a, .int v] ∧ (σ.1 0 1 ≤ 6)
def fX7_act (as : List Value) (σ : xS) : Option Value × xS := match as with
  | [.ref 0, .int x, .int a, .int v] => (some (.int (actM σ x a v).1), (actM σ x a v).2)
  | _ => (none, σ)
theorem pX7_act_e {x : Int32} {a : Int32} {v : Int32} {σ : xS} : pX7_act [.ref 0, .int x, .int a, .int v] σ = (σ.1 0 1 ≤ 6) := propext ⟨fun h => by obtain ⟨x, a, v, e, h⟩ := h; cases e; exact h, fun h => ⟨x, a, v, rfl, h⟩⟩
theorem fX7_act_e {x : Int32} {a : Int32} {v : Int32} {σ : xS} : fX7_act [.ref 0, .int x, .int a, .int v] σ = (some (.int (actM σ x a v).1), (actM σ x a v).2) := rfl
def calX7_act : List (Nat × xCall) := [(140, (false, 2, pX7_isWalker, fX7_isWalker)), (336, (false, 3, pX7_stepping, fX7_stepping)), (339, (false, 3, pX7_meeting, fX7_meeting)), (342, (false, 3, pX7_taking, fX7_taking))]
theorem c_X7_act_140 : xlk calX7_act 140 = some (false, 2, pX7_isWalker, fX7_isWalker) := rfl
theorem c_X7_act_336 : xlk calX7_act 336 = some (false, 3, pX7_stepping, fX7_stepping) := rfl
theorem c_X7_act_339 : xlk calX7_act 339 = some (false, 3, pX7_meeting, fX7_meeting) := rfl
theorem c_X7_act_342 : xlk calX7_act 342 = some (false, 3, pX7_taking, fX7_taking) := rfl
set_option maxHeartbeats 4000000 in
set_option maxRecDepth 100000 in
theorem mX7_act : xMet WM yX7_act cX7_act 4 (some .int) 5 pX7_act fX7_act := by
  refine xMet_of (fld := xlk fldX7) (cal := xlk calX7_act) (ks := xlk []) (gs := xlk []) (ro := fun _ => none) 0 (by decide) WM_nd rfl fldX7_ok xKs_nil xGs_nil (Or.inr rfl) (xcal_cons (xCk_V mX7_isWalker 7 (by decide) (by decide) (by decide) rfl (fun as σ h _ => rX7_isWalker as σ h) w_X7_140 ⟨by decide, by decide, by decide +kernel⟩) (xcal_cons (xCk_V mX7_stepping 7 (by decide) (by decide) (by decide) rfl (fun as σ h _ => rX7_stepping as σ h) w_X7_336 ⟨by decide, by decide, by decide +kernel⟩) (xcal_cons (xCk_V mX7_meeting 7 (by decide) (by decide) (by decide) rfl (fun as σ h _ => rX7_meeting as σ h) w_X7_339 ⟨by decide, by decide, by decide +kernel⟩) (xcal_cons (xCk_V mX7_taking 7 (by decide) (by decide) (by decide) rfl (fun as σ h _ => rX7_taking as σ h) w_X7_342 ⟨by decide, by decide, by decide +kernel⟩) xcal_nil)))) ?_ ?_
  · rintro av σ ⟨x, a, v, rfl, hpre⟩
    exact Nat.le_of_ble_eq_true rfl
  rintro av σ ⟨x, a, v, rfl, hp1⟩ Rt hR
  have hR2 := hR2_g (Rt := Rt) (F := actM σ x a v) (fun r s' => by rw [hR, fX7_act_e])
  have h6 : 0 ≤ x ∧ x < σ.1 0 1 → 0 ≤ x ∧ tn x < 6 := fun h => ⟨h.1, tn6 h hp1⟩
  have z5 : rnP 5 0 := rnP_z (by omega)
  have z10 : rnP 10 0 := rnP_z (by omega)
  have z20 : rnP 20 0 := rnP_z (by omega)
  refine xgo0 36 ?_
  simp -implicitDefEqProofs only [xwp_2, xwp_0, xwp_1, xws_s, xdd_o, xld_0, xld_s, xs1_0, xs1_1, xs1_s, xs2_0, xs2_1, xs2_s, xlg_n, xlg_i, xlg_r, xlg_z, xlg_l, xf4_0, xf4_1, xf4_2, xf4_3, xgo_e, xcmp_eq, xcmp_ne, xcmp_lt, xcmp_ge, xcmp_gt, xcmp_le, xfg_0, xfg_1, xfg_2, xfg_3, xfg_4, xpop_0, xpop_s, xsw_n, xsw_c, xtb_n, xtb_c, xenp_n, xenp_i, xenp_r, xenp_z, xenp_l, xrep_0, xrep_s, Nat.reduceSub, true_and, and_true, cat_i, cat_r, Nat.reduceAdd, Nat.reduceLT, Nat.reduceLeDiff, Nat.reduceEqDiff, xnc, Int.reduceAdd, Int.reduceSub, Int.reduceNeg, Int.reduceLE, Int.reduceLT, Int.reduceToNat, ↓reduceIte, List.length_cons, List.length_nil, xlc0, xlc1, ite_10, i10, i01, i0_2, i0_3, i0_4, i0_6, i0_7, i0_8, i0_49, i0_10, or_true, true_or, or_false, false_or, not_false_eq_true, not_true_eq_false, xnt, xI_g, eq_self, xI_2, xJ_1, false_and, and_false, obM_t, rMi, vp_tn, tn_def, lgc, nI8, nI6, nI160, nI20, nI401, nI49, aM_6, aM_7, aM_8, aM_9, aM_10, aM_11, aM_12, aM_13, aM_14, aM_15, aM_16, aM_17, aM_18, aM_19, aM_20, aM_21, aM_22, aM_23, aM_24, aM_25, aM_26, aM_27, aM_28, aM_29, aM_30, aM_31, aM_38, aM_39, aM_40, aM_41, aM_42, aM_43, aM_44, aM_45, aM_46, aM_47, lM_6, lM_7, lM_8, lM_9, lM_10, lM_11, lM_12, lM_13, lM_14, lM_15, lM_16, lM_17, lM_18, lM_19, lM_20, lM_21, lM_22, lM_23, lM_24, lM_25, lM_26, lM_27, lM_28, lM_29, lM_30, lM_31, lM_38, lM_39, lM_40, lM_41, lM_42, lM_43, lM_44, lM_45, lM_46, lM_47, dX7_act_0, st_aload_n, dX7_act_1, st_iconst, dX7_act_2, st_putfield, fl_X7_330, dX7_act_5, dX7_act_6, st_iload_n, dX7_act_7, st_invokevirtual, dX7_act_10, st_ifCond, dX7_act_13, dX7_act_14, dX7_act_17, dX7_act_18, dX7_act_19, st_if_icmp, dX7_act_22, dX7_act_23, st_ireturn, dX7_act_24, dX7_act_25, dX7_act_28, dX7_act_29, dX7_act_30, dX7_act_31, dX7_act_34, st_goto, dX7_act_37, dX7_act_38, dX7_act_39, dX7_act_42, dX7_act_43, dX7_act_44, dX7_act_45, dX7_act_48, dX7_act_51, dX7_act_52, dX7_act_53, dX7_act_54, dX7_act_57, c_X7_act_140, pX7_isWalker_e, fX7_isWalker_e, Option.toList_some, Option.toList_none, List.cons_append, List.nil_append, c_X7_act_336, pX7_stepping_e, fX7_stepping_e, c_X7_act_339, pX7_meeting_e, fX7_meeting_e, c_X7_act_342, pX7_taking_e, fX7_taking_e, ofI_0, ofJ_2, ofJ_1, hp1, nbP_1, nbP_2, nbP_3, nbP_4, nbP_5, nbP_6, nbP_7, z5, z10, z20]
  clear hR
  simp only [hR2, actM]
  clear hR2 z5 z10 z20
  generalize xI σ 0 48 0 = T at *
  grind (splits := 40)
theorem rX7_act : ∀ as σ, pX7_act as σ → ∃ K as', as = .ref K :: as' ∧ xob WM K 7 := by
  rintro as σ ⟨x, a, v, rfl, hpre⟩
  exact ⟨_, _, rfl, by first | exact hpre | exact hpre.1 | exact obT hpre | exact obT hpre.1 | exact obS hpre | exact obS hpre.1 | exact obM | exact ob6 | exact ob2 | exact ob0⟩
