def tldX (σ : xS) (K : Nat) (x : Int32) : Int32 := if x = 0 then σ.1 K 0 else if x = 1 then σ.1 K 1 else if x = 2 then σ.1 K 2 else if x = 3 then σ.1 K 3 else if x = 4 then σ.1 K 4 else if x = 5 then σ.1 K 5 else σ.1 K 6
theorem fX5_told_n {K : Nat} {x : Int32} {σ : xS} : fX5_told [.ref K, .int x] σ = (some (.int (tldX σ K x)), σ) := rfl
/-- refused -/
def noX (σ : xS) (a : Int32) : Int32 × xS := (a, rfX σ a)
def bgnX (σ : xS) (K : Nat) (o n : Int32) : xS := xJs (xI (xI σ K 0 (100 + o)) K 1 n) (K + 10) (fun j => if j < min (tn n) 160 then 0 else σ.2 (K + 10) j)
theorem fX3_beginRow_n {K : Nat} {o n : Int32} {σ : xS} : fX3_beginRow [.ref K, .int o, .int n] σ = (none, bgnX σ K o n) := rfl
def rowX (σ : xS) (s o n : Int32) : Int32 × xS := if 0 ≤ s ∧ s < 8 then (if n < 0 then noX σ (-4) else if o < 0 ∨ 4 ≤ o then noX σ (-6) else if 160 < n then noX σ (-7) else (1, bgnX σ (10 + tn s) o n)) else noX σ (-1)
def pX6_row (as : List Value) (σ : xS) : Prop := ∃ (s : Int32) (o : Int32) (n : Int32), as = [.ref 0, .int s, .int o, .int n] ∧ (True)
def fX6_row (as : List Value) (σ : xS) : Option Value × xS := match as with
  | [.ref 0, .int s, .int o, .int n] => (some (.int (rowX σ s o n).1), (rowX σ s o n).2)
  | _ => (none, σ)
theorem pX6_row_e {s : Int32} {o : Int32} {n : Int32} {σ : xS} : pX6_row [.ref 0, .int s, .int o, .int n] σ = (True) := propext ⟨fun h => by obtain ⟨s, o, n, e, h⟩ := h; cases e; exact h, fun h => ⟨s, o, n, rfl, h⟩⟩
theorem fX6_row_e {s : Int32} {o : Int32} {n : Int32} {σ : xS} : fX6_row [.ref 0, .int s, .int o, .int n] σ = (some (.int (rowX σ s o n).1), (rowX σ s o n).2) := rfl
def calX6_row : List (Nat × xCall) := [(62, (false, 2, pX6_shelfBy, fX6_shelfBy)), (66, (false, 2, pX6_refuse, fX6_refuse)), (70, (false, 3, pX3_beginRow, fX3_beginRow))]
theorem c_X6_row_62 : xlk calX6_row 62 = some (false, 2, pX6_shelfBy, fX6_shelfBy) := rfl
theorem c_X6_row_66 : xlk calX6_row 66 = some (false, 2, pX6_refuse, fX6_refuse) := rfl
theorem c_X6_row_70 : xlk calX6_row 70 = some (false, 3, pX3_beginRow, fX3_beginRow) := rfl
set_option maxHeartbeats 4000000 in
set_option maxRecDepth 100000 in
theorem mX6_row : xMet WX yX6_row cX6_row 5 (some .int) 2 pX6_row fX6_row := by
  refine xMet_of (fld := xlk fldX6) (cal := xlk calX6_row) (ks := xlk []) (gs := xlk []) (ro := fun _ => none) 0 (by decide) WX_nd rfl fldX6_ok xKs_nil xGs_nil (Or.inr rfl) (xcal_cons (xCk_V mX6_shelfBy 6 (by decide) (by decide) (by decide) rfl (fun as σ h _ => rX6_shelfBy as σ h) w_X6_62 ⟨by decide, by decide, by decide +kernel⟩) (xcal_cons (xCk_V mX6_refuse 6 (by decide) (by decide) (by decide) rfl (fun as σ h _ => rX6_refuse as σ h) w_X6_66 ⟨by decide, by decide, by decide +kernel⟩) (xcal_cons (xCk_V mX3_beginRow 3 (by decide) (by decide) (by decide) rfl (fun as σ h _ => rX3_beginRow as σ h) w_X6_70 ⟨by decide, by decide, by decide +kernel⟩) xcal_nil))) ?_ ?_
  · rintro av σ ⟨s, o, n, rfl, hpre⟩
    exact Nat.le_of_ble_eq_true rfl
  rintro av σ ⟨s, o, n, rfl, hp1⟩ Rt hR
  have hR2 : ∀ v' t', Rt (some (.int v')) t' = ((v', t') = rowX σ s o n) := fun v' t' => by
    rw [hR, fX6_row_e]
    exact propext ⟨fun h => Prod.ext (by simpa using h.1) h.2, fun h => ⟨by rw [← h], by rw [← h]⟩⟩
  by_cases h : 0 ≤ s ∧ s < 8
  · have hSs : xSh (10 + tn s) := sh8 h
    refine xgo0 40 ?_
    simp (config := {maxSteps := 4000000, implicitDefEqProofs := false}) only [xwp_2, xwp_0, xwp_1, xws_s, xdd_o, xld_0, xld_s, xs1_0, xs1_1, xs1_s, xs2_0, xs2_1, xs2_s, xlg_n, xlg_i, xlg_r, xlg_z, xlg_l, xf4_0, xf4_1, xf4_2, xf4_3, xgo_e, xcmp_eq, xcmp_ne, xcmp_lt, xcmp_ge, xcmp_gt, xcmp_le, xfg_0, xfg_1, xfg_2, xfg_3, xfg_4, xpop_0, xpop_s, xsw_n, xsw_c, xtb_n, xtb_c, xenp_n, xenp_i, xenp_r, xenp_z, xenp_l, xrep_0, xrep_s, Nat.reduceSub, true_and, and_true, cat_i, cat_r, Nat.reduceAdd, Nat.reduceLT, Nat.reduceLeDiff, Nat.reduceEqDiff, xnc, Int.reduceAdd, Int.reduceSub, Int.reduceNeg, Int.reduceLE, Int.reduceLT, Int.reduceToNat, ↓reduceIte, List.length_cons, List.length_nil, xlc0, xlc1, ite_10, i10, i01, i0_2, i0_3, i0_4, i0_6, i0_7, i0_8, i0_49, i0_10, or_true, true_or, or_false, false_or, not_false_eq_true, not_true_eq_false, xnt, xI_g, eq_self, xI_2, xJ_1, false_and, and_false, obT_t, obS_t, ob6_t, ob2_t, ob0_t, kT1_t, kT2_t, kT3_t, kT4_t, lT1, lT2, rT6, rT7, rT8, rT9, rT1i, rT2i, rS2, kSe_t, lSe, r0_0, r0_1, r0_2, r0_3, r0_4, r0_5, r0_6, r0_7, r0_8, r0_9, r1_i, r2_4, r2_5, r4_4, a1_t, a3_t, a5_t, a6_t, a7_t, a8_t, l1, l3, l5, l6, l7, l8, T1, T2, T3, T4, nI8, nI6, nI160, nI20, nI401, nI49, ob5_t, ob1_t, vp_tn, tn_def, lgc, dX6_row_0, st_aload_n, dX6_row_1, st_iload_n, dX6_row_2, st_invokevirtual, dX6_row_5, st_astore, dX6_row_7, st_aload, dX6_row_9, st_ifnonnull, dX6_row_12, dX6_row_13, st_iconst, dX6_row_14, dX6_row_17, st_ireturn, dX6_row_18, dX6_row_19, st_ifCond, dX6_row_22, dX6_row_23, st_bipush, dX6_row_25, dX6_row_28, dX6_row_29, dX6_row_30, dX6_row_33, dX6_row_34, dX6_row_35, st_if_icmp, dX6_row_38, dX6_row_39, dX6_row_41, dX6_row_44, dX6_row_45, dX6_row_46, st_sipush, dX6_row_49, dX6_row_52, dX6_row_53, dX6_row_55, dX6_row_58, dX6_row_59, dX6_row_61, dX6_row_62, dX6_row_63, dX6_row_66, dX6_row_67, c_X6_row_62, pX6_shelfBy_e, fX6_shelfBy_e, Option.toList_some, Option.toList_none, List.cons_append, List.nil_append, c_X6_row_66, pX6_refuse_e, fX6_refuse_e, c_X6_row_70, pX3_beginRow_e, fX3_beginRow_n, ofI_m1, ofI_m4, ofI_4, ofI_m6, ofI_160, ofI_m7, ofJ_1, hp1, h, hSs]
    clear hR
    simp only [hR2, rowX, noX]
    clear hR2
    grind (splits := 40)
  · refine xgo0 40 ?_
    simp (config := {maxSteps := 4000000, implicitDefEqProofs := false}) only [xwp_2, xwp_0, xwp_1, xws_s, xdd_o, xld_0, xld_s, xs1_0, xs1_1, xs1_s, xs2_0, xs2_1, xs2_s, xlg_n, xlg_i, xlg_r, xlg_z, xlg_l, xf4_0, xf4_1, xf4_2, xf4_3, xgo_e, xcmp_eq, xcmp_ne, xcmp_lt, xcmp_ge, xcmp_gt, xcmp_le, xfg_0, xfg_1, xfg_2, xfg_3, xfg_4, xpop_0, xpop_s, xsw_n, xsw_c, xtb_n, xtb_c, xenp_n, xenp_i, xenp_r, xenp_z, xenp_l, xrep_0, xrep_s, Nat.reduceSub, true_and, and_true, cat_i, cat_r, Nat.reduceAdd, Nat.reduceLT, Nat.reduceLeDiff, Nat.reduceEqDiff, xnc, Int.reduceAdd, Int.reduceSub, Int.reduceNeg, Int.reduceLE, Int.reduceLT, Int.reduceToNat, ↓reduceIte, List.length_cons, List.length_nil, xlc0, xlc1, ite_10, i10, i01, i0_2, i0_3, i0_4, i0_6, i0_7, i0_8, i0_49, i0_10, or_true, true_or, or_false, false_or, not_false_eq_true, not_true_eq_false, xnt, xI_g, eq_self, xI_2, xJ_1, false_and, and_false, obT_t, obS_t, ob6_t, ob2_t, ob0_t, kT1_t, kT2_t, kT3_t, kT4_t, lT1, lT2, rT6, rT7, rT8, rT9, rT1i, rT2i, rS2, kSe_t, lSe, r0_0, r0_1, r0_2, r0_3, r0_4, r0_5, r0_6, r0_7, r0_8, r0_9, r1_i, r2_4, r2_5, r4_4, a1_t, a3_t, a5_t, a6_t, a7_t, a8_t, l1, l3, l5, l6, l7, l8, T1, T2, T3, T4, nI8, nI6, nI160, nI20, nI401, nI49, ob5_t, ob1_t, vp_tn, tn_def, lgc, dX6_row_0, st_aload_n, dX6_row_1, st_iload_n, dX6_row_2, st_invokevirtual, dX6_row_5, st_astore, dX6_row_7, st_aload, dX6_row_9, st_ifnonnull, dX6_row_12, dX6_row_13, st_iconst, dX6_row_14, dX6_row_17, st_ireturn, dX6_row_18, dX6_row_19, st_ifCond, dX6_row_22, dX6_row_23, st_bipush, dX6_row_25, dX6_row_28, dX6_row_29, dX6_row_30, dX6_row_33, dX6_row_34, dX6_row_35, st_if_icmp, dX6_row_38, dX6_row_39, dX6_row_41, dX6_row_44, dX6_row_45, dX6_row_46, st_sipush, dX6_row_49, dX6_row_52, dX6_row_53, dX6_row_55, dX6_row_58, dX6_row_59, dX6_row_61, dX6_row_62, dX6_row_63, dX6_row_66, dX6_row_67, c_X6_row_62, pX6_shelfBy_e, fX6_shelfBy_e, Option.toList_some, Option.toList_none, List.cons_append, List.nil_append, c_X6_row_66, pX6_refuse_e, fX6_refuse_e, c_X6_row_70, pX3_beginRow_e, fX3_beginRow_n, ofI_m1, ofI_m4, ofI_4, ofI_m6, ofI_160, ofI_m7, ofJ_1, hp1, h]
    clear hR
    simp only [hR2, rowX, noX]
    clear hR2
    grind (splits := 40)
theorem rX6_row : ∀ as σ, pX6_row as σ → ∃ K as', as = .ref K :: as' ∧ xob WX K 6 := by
  rintro as σ ⟨s, o, n, rfl, hpre⟩
  exact ⟨_, _, rfl, by first | exact hpre | exact hpre.1 | exact obT hpre | exact obT hpre.1 | exact obS hpre | exact obS hpre.1 | exact obM | exact ob6 | exact ob2 | exact ob0⟩
def setX (σ : xS) (s i : Int32) (v : Int64) : Int32 × xS := if 0 ≤ s ∧ s < 8 then (if wnr σ (10 + tn s) = 0 then (if 0 ≤ i ∧ i < σ.1 (10 + tn s) 1 ∧ i < 160 then (1, xJ σ (10 + tn s + 10) (tn i) (xcut64 (σ.1 (10 + tn s) 0) v)) else noX σ (-5)) else noX σ (wnr σ (10 + tn s))) else noX σ (-1)
theorem im1_0 : ((-1 : Int32) = 0) = False := eq_false (by decide)
def pX6_set (as : List Value) (σ : xS) : Prop := ∃ (s : Int32) (i : Int32) (v : Int64), as = [.ref 0, .int s, .int i, .long v] ∧ (True)
def fX6_set (as : List Value) (σ : xS) : Option Value × xS := match as with
  | [.ref 0, .int s, .int i, .long v] => (some (.int (setX σ s i v).1), (setX σ s i v).2)
  | _ => (none, σ)
theorem pX6_set_e {s : Int32} {i : Int32} {v : Int64} {σ : xS} : pX6_set [.ref 0, .int s, .int i, .long v] σ = (True) := propext ⟨fun h => by obtain ⟨s, i, v, e, h⟩ := h; cases e; exact h, fun h => ⟨s, i, v, rfl, h⟩⟩
theorem fX6_set_e {s : Int32} {i : Int32} {v : Int64} {σ : xS} : fX6_set [.ref 0, .int s, .int i, .long v] σ = (some (.int (setX σ s i v).1), (setX σ s i v).2) := rfl
def calX6_set : List (Nat × xCall) := [(62, (false, 2, pX6_shelfBy, fX6_shelfBy)), (74, (true, 1, pX6_whyNoRow, fX6_whyNoRow)), (66, (false, 2, pX6_refuse, fX6_refuse)), (78, (false, 2, pX3_reaches, fX3_reaches)), (82, (false, 3, pX3_put, fX3_put))]
theorem c_X6_set_62 : xlk calX6_set 62 = some (false, 2, pX6_shelfBy, fX6_shelfBy) := rfl
theorem c_X6_set_74 : xlk calX6_set 74 = some (true, 1, pX6_whyNoRow, fX6_whyNoRow) := rfl
theorem c_X6_set_66 : xlk calX6_set 66 = some (false, 2, pX6_refuse, fX6_refuse) := rfl
theorem c_X6_set_78 : xlk calX6_set 78 = some (false, 2, pX3_reaches, fX3_reaches) := rfl
theorem c_X6_set_82 : xlk calX6_set 82 = some (false, 3, pX3_put, fX3_put) := rfl
set_option maxHeartbeats 4000000 in
set_option maxRecDepth 100000 in
theorem mX6_set : xMet WX yX6_set cX6_set 7 (some .int) 3 pX6_set fX6_set := by
  refine xMet_of (fld := xlk fldX6) (cal := xlk calX6_set) (ks := xlk []) (gs := xlk []) (ro := fun _ => none) 0 (by decide) WX_nd rfl fldX6_ok xKs_nil xGs_nil (Or.inr rfl) (xcal_cons (xCk_V mX6_shelfBy 6 (by decide) (by decide) (by decide) rfl (fun as σ h _ => rX6_shelfBy as σ h) w_X6_62 ⟨by decide, by decide, by decide +kernel⟩) (xcal_cons (xCk_S mX6_whyNoRow (by decide) (by decide) w_X6_74 ⟨by decide, by decide, by decide +kernel⟩) (xcal_cons (xCk_V mX6_refuse 6 (by decide) (by decide) (by decide) rfl (fun as σ h _ => rX6_refuse as σ h) w_X6_66 ⟨by decide, by decide, by decide +kernel⟩) (xcal_cons (xCk_V mX3_reaches 3 (by decide) (by decide) (by decide) rfl (fun as σ h _ => rX3_reaches as σ h) w_X6_78 ⟨by decide, by decide, by decide +kernel⟩) (xcal_cons (xCk_V mX3_put 3 (by decide) (by decide) (by decide) rfl (fun as σ h _ => rX3_put as σ h) w_X6_82 ⟨by decide, by decide, by decide +kernel⟩) xcal_nil))))) ?_ ?_
  · rintro av σ ⟨s, i, v, rfl, hpre⟩
    exact Nat.le_of_ble_eq_true rfl
  rintro av σ ⟨s, i, v, rfl, hp1⟩ Rt hR
  have hR2 : ∀ v' t', Rt (some (.int v')) t' = ((v', t') = setX σ s i v) := fun v' t' => by
    rw [hR, fX6_set_e]
    exact propext ⟨fun h => Prod.ext (by simpa using h.1) h.2, fun h => ⟨by rw [← h], by rw [← h]⟩⟩
  by_cases h : 0 ≤ s ∧ s < 8
  · have hSs : xSh (10 + tn s) := sh8 h
    refine xgo0 31 ?_
    simp (config := {maxSteps := 4000000, implicitDefEqProofs := false}) only [xwp_2, xwp_0, xwp_1, xws_s, xdd_o, xld_0, xld_s, xs1_0, xs1_1, xs1_s, xs2_0, xs2_1, xs2_s, xlg_n, xlg_i, xlg_r, xlg_z, xlg_l, xf4_0, xf4_1, xf4_2, xf4_3, xgo_e, xcmp_eq, xcmp_ne, xcmp_lt, xcmp_ge, xcmp_gt, xcmp_le, xfg_0, xfg_1, xfg_2, xfg_3, xfg_4, xpop_0, xpop_s, xsw_n, xsw_c, xtb_n, xtb_c, xenp_n, xenp_i, xenp_r, xenp_z, xenp_l, xrep_0, xrep_s, Nat.reduceSub, true_and, and_true, cat_i, cat_r, Nat.reduceAdd, Nat.reduceLT, Nat.reduceLeDiff, Nat.reduceEqDiff, xnc, Int.reduceAdd, Int.reduceSub, Int.reduceNeg, Int.reduceLE, Int.reduceLT, Int.reduceToNat, ↓reduceIte, List.length_cons, List.length_nil, xlc0, xlc1, ite_10, i10, i01, i0_2, i0_3, i0_4, i0_6, i0_7, i0_8, i0_49, i0_10, or_true, true_or, or_false, false_or, not_false_eq_true, not_true_eq_false, xnt, xI_g, eq_self, xI_2, xJ_1, false_and, and_false, obT_t, obS_t, ob6_t, ob2_t, ob0_t, kT1_t, kT2_t, kT3_t, kT4_t, lT1, lT2, rT6, rT7, rT8, rT9, rT1i, rT2i, rS2, kSe_t, lSe, r0_0, r0_1, r0_2, r0_3, r0_4, r0_5, r0_6, r0_7, r0_8, r0_9, r1_i, r2_4, r2_5, r4_4, a1_t, a3_t, a5_t, a6_t, a7_t, a8_t, l1, l3, l5, l6, l7, l8, T1, T2, T3, T4, nI8, nI6, nI160, nI20, nI401, nI49, ob5_t, ob1_t, vp_tn, tn_def, lgc, dX6_set_0, st_aload_n, dX6_set_1, st_iload_n, dX6_set_2, st_invokevirtual, dX6_set_5, st_astore, dX6_set_7, st_aload, dX6_set_9, st_invokestatic, dX6_set_12, st_istore, dX6_set_14, dX6_set_16, st_ifnull, dX6_set_19, st_iload, dX6_set_21, st_ifCond, dX6_set_24, dX6_set_25, dX6_set_27, dX6_set_30, st_ireturn, dX6_set_31, dX6_set_33, dX6_set_34, dX6_set_37, dX6_set_40, dX6_set_41, st_bipush, dX6_set_43, dX6_set_46, dX6_set_47, dX6_set_49, dX6_set_50, st_lload_n, dX6_set_51, dX6_set_54, st_iconst, dX6_set_55, c_X6_set_62, pX6_shelfBy_e, fX6_shelfBy_e, Option.toList_some, Option.toList_none, List.cons_append, List.nil_append, c_X6_set_74, pwnr_r, fwnr_r, c_X6_set_66, pX6_refuse_e, fX6_refuse_e, c_X6_set_78, pX3_reaches_e, fX3_reaches_e, c_X6_set_82, pX3_put_e, fX3_put_e, ofI_m5, ofJ_1, hp1, h, hSs, im1_0]
    clear hR
    simp only [hR2, setX, noX]
    clear hR2
    grind (splits := 40)
  · refine xgo0 31 ?_
    simp (config := {maxSteps := 4000000, implicitDefEqProofs := false}) only [xwp_2, xwp_0, xwp_1, xws_s, xdd_o, xld_0, xld_s, xs1_0, xs1_1, xs1_s, xs2_0, xs2_1, xs2_s, xlg_n, xlg_i, xlg_r, xlg_z, xlg_l, xf4_0, xf4_1, xf4_2, xf4_3, xgo_e, xcmp_eq, xcmp_ne, xcmp_lt, xcmp_ge, xcmp_gt, xcmp_le, xfg_0, xfg_1, xfg_2, xfg_3, xfg_4, xpop_0, xpop_s, xsw_n, xsw_c, xtb_n, xtb_c, xenp_n, xenp_i, xenp_r, xenp_z, xenp_l, xrep_0, xrep_s, Nat.reduceSub, true_and, and_true, cat_i, cat_r, Nat.reduceAdd, Nat.reduceLT, Nat.reduceLeDiff, Nat.reduceEqDiff, xnc, Int.reduceAdd, Int.reduceSub, Int.reduceNeg, Int.reduceLE, Int.reduceLT, Int.reduceToNat, ↓reduceIte, List.length_cons, List.length_nil, xlc0, xlc1, ite_10, i10, i01, i0_2, i0_3, i0_4, i0_6, i0_7, i0_8, i0_49, i0_10, or_true, true_or, or_false, false_or, not_false_eq_true, not_true_eq_false, xnt, xI_g, eq_self, xI_2, xJ_1, false_and, and_false, obT_t, obS_t, ob6_t, ob2_t, ob0_t, kT1_t, kT2_t, kT3_t, kT4_t, lT1, lT2, rT6, rT7, rT8, rT9, rT1i, rT2i, rS2, kSe_t, lSe, r0_0, r0_1, r0_2, r0_3, r0_4, r0_5, r0_6, r0_7, r0_8, r0_9, r1_i, r2_4, r2_5, r4_4, a1_t, a3_t, a5_t, a6_t, a7_t, a8_t, l1, l3, l5, l6, l7, l8, T1, T2, T3, T4, nI8, nI6, nI160, nI20, nI401, nI49, ob5_t, ob1_t, vp_tn, tn_def, lgc, dX6_set_0, st_aload_n, dX6_set_1, st_iload_n, dX6_set_2, st_invokevirtual, dX6_set_5, st_astore, dX6_set_7, st_aload, dX6_set_9, st_invokestatic, dX6_set_12, st_istore, dX6_set_14, dX6_set_16, st_ifnull, dX6_set_19, st_iload, dX6_set_21, st_ifCond, dX6_set_24, dX6_set_25, dX6_set_27, dX6_set_30, st_ireturn, dX6_set_31, dX6_set_33, dX6_set_34, dX6_set_37, dX6_set_40, dX6_set_41, st_bipush, dX6_set_43, dX6_set_46, dX6_set_47, dX6_set_49, dX6_set_50, st_lload_n, dX6_set_51, dX6_set_54, st_iconst, dX6_set_55, c_X6_set_62, pX6_shelfBy_e, fX6_shelfBy_e, Option.toList_some, Option.toList_none, List.cons_append, List.nil_append, c_X6_set_74, pwnr_r, fwnr_r, c_X6_set_66, pX6_refuse_e, fX6_refuse_e, c_X6_set_78, pX3_reaches_e, fX3_reaches_e, c_X6_set_82, pX3_put_e, fX3_put_e, ofI_m5, ofJ_1, hp1, h, im1_0, pwnr_n, fwnr_n]
    clear hR
    simp only [hR2, setX, noX]
    clear hR2
    grind (splits := 40)
theorem rX6_set : ∀ as σ, pX6_set as σ → ∃ K as', as = .ref K :: as' ∧ xob WX K 6 := by
  rintro as σ ⟨s, i, v, rfl, hpre⟩
  exact ⟨_, _, rfl, by first | exact hpre | exact hpre.1 | exact obT hpre | exact obT hpre.1 | exact obS hpre | exact obS hpre.1 | exact obM | exact ob6 | exact ob2 | exact ob0⟩
def tkoX (σ : xS) (Q P : Nat) (i j n : Int32) : Prop := (0 ≤ i ∧ 0 ≤ n ∧ σ.1 P 1 ≤ 160 ∧ n ≤ σ.1 P 1 - i) ∧ (0 ≤ j ∧ 0 ≤ n ∧ σ.1 Q 1 ≤ 160 ∧ n ≤ σ.1 Q 1 - j)
def copyX (σ : xS) (p q i j n : Int32) : Int32 × xS := if (0 ≤ p ∧ p < 8) ∧ (0 ≤ q ∧ q < 8) then
  (if (0 ≤ σ.1 (10 + tn p) 0 ∧ σ.1 (10 + tn p) 0 < 100) ∨ (0 ≤ σ.1 (10 + tn q) 0 ∧ σ.1 (10 + tn q) 0 < 100) ∨ ((100 ≤ σ.1 (10 + tn p) 0 ∧ 100 ≤ σ.1 (10 + tn q) 0) ∧ ¬ σ.1 (10 + tn p) 0 = σ.1 (10 + tn q) 0) then noX σ (-2)
   else if ¬ (100 ≤ σ.1 (10 + tn p) 0 ∧ 100 ≤ σ.1 (10 + tn q) 0) then noX σ (-3)
   else if n < 0 then noX σ (-4)
   else if (0 ≤ i ∧ 0 ≤ n ∧ σ.1 (10 + tn p) 1 ≤ 160 ∧ n ≤ σ.1 (10 + tn p) 1 - i) ∧ (0 ≤ j ∧ 0 ≤ n ∧ σ.1 (10 + tn q) 1 ≤ 160 ∧ n ≤ σ.1 (10 + tn q) 1 - j) then (1, xJs σ (10 + tn q + 10) (va_cpy (σ.2 (10 + tn p + 10)) (σ.2 (10 + tn q + 10)) (tn i) (tn j) (tn n)))
   else noX σ (-5)) else noX σ (-1)
def pX6_copy (as : List Value) (σ : xS) : Prop := ∃ (p : Int32) (q : Int32) (i : Int32) (j : Int32) (n : Int32), as = [.ref 0, .int p, .int q, .int i, .int j, .int n] ∧ (∀ k, k < 8 → 0 ≤ σ.1 (10 + k) 1)
def fX6_copy (as : List Value) (σ : xS) : Option Value × xS := match as with
  | [.ref 0, .int p, .int q, .int i, .int j, .int n] => (some (.int (copyX σ p q i j n).1), (copyX σ p q i j n).2)
  | _ => (none, σ)
theorem pX6_copy_e {p : Int32} {q : Int32} {i : Int32} {j : Int32} {n : Int32} {σ : xS} : pX6_copy [.ref 0, .int p, .int q, .int i, .int j, .int n] σ = (∀ k, k < 8 → 0 ≤ σ.1 (10 + k) 1) := propext ⟨fun h => by obtain ⟨p, q, i, j, n, e, h⟩ := h; cases e; exact h, fun h => ⟨p, q, i, j, n, rfl, h⟩⟩
theorem fX6_copy_e {p : Int32} {q : Int32} {i : Int32} {j : Int32} {n : Int32} {σ : xS} : fX6_copy [.ref 0, .int p, .int q, .int i, .int j, .int n] σ = (some (.int (copyX σ p q i j n).1), (copyX σ p q i j n).2) := rfl
def calX6_copy : List (Nat × xCall) := [(62, (false, 2, pX6_shelfBy, fX6_shelfBy)), (66, (false, 2, pX6_refuse, fX6_refuse)), (86, (false, 1, pX3_hasRow, fX3_hasRow)), (90, (false, 1, pX3_hasWalker, fX3_hasWalker)), (96, (false, 5, pX3_takeOver, fX3_takeOver))]
theorem c_X6_copy_62 : xlk calX6_copy 62 = some (false, 2, pX6_shelfBy, fX6_shelfBy) := rfl
theorem c_X6_copy_66 : xlk calX6_copy 66 = some (false, 2, pX6_refuse, fX6_refuse) := rfl
theorem c_X6_copy_86 : xlk calX6_copy 86 = some (false, 1, pX3_hasRow, fX3_hasRow) := rfl
theorem c_X6_copy_90 : xlk calX6_copy 90 = some (false, 1, pX3_hasWalker, fX3_hasWalker) := rfl
theorem c_X6_copy_96 : xlk calX6_copy 96 = some (false, 5, pX3_takeOver, fX3_takeOver) := rfl
set_option maxHeartbeats 4000000 in
set_option maxRecDepth 100000 in
theorem mX6_copy : xMet WX yX6_copy cX6_copy 9 (some .int) 3 pX6_copy fX6_copy := by
  refine xMet_of (fld := xlk fldX6) (cal := xlk calX6_copy) (ks := xlk []) (gs := xlk []) (ro := fun _ => none) 0 (by decide) WX_nd rfl fldX6_ok xKs_nil xGs_nil (Or.inr rfl) (xcal_cons (xCk_V mX6_shelfBy 6 (by decide) (by decide) (by decide) rfl (fun as σ h _ => rX6_shelfBy as σ h) w_X6_62 ⟨by decide, by decide, by decide +kernel⟩) (xcal_cons (xCk_V mX6_refuse 6 (by decide) (by decide) (by decide) rfl (fun as σ h _ => rX6_refuse as σ h) w_X6_66 ⟨by decide, by decide, by decide +kernel⟩) (xcal_cons (xCk_V mX3_hasRow 3 (by decide) (by decide) (by decide) rfl (fun as σ h _ => rX3_hasRow as σ h) w_X6_86 ⟨by decide, by decide, by decide +kernel⟩) (xcal_cons (xCk_V mX3_hasWalker 3 (by decide) (by decide) (by decide) rfl (fun as σ h _ => rX3_hasWalker as σ h) w_X6_90 ⟨by decide, by decide, by decide +kernel⟩) (xcal_cons (xCk_V mX3_takeOver 3 (by decide) (by decide) (by decide) rfl (fun as σ h _ => rX3_takeOver as σ h) w_X6_96 ⟨by decide, by decide, by decide +kernel⟩) xcal_nil))))) ?_ ?_
  · rintro av σ ⟨p, q, i, j, n, rfl, hpre⟩
    exact Nat.le_of_ble_eq_true rfl
  rintro av σ ⟨p, q, i, j, n, rfl, hp1⟩ Rt hR
  have hR2 : ∀ v' t', Rt (some (.int v')) t' = ((v', t') = copyX σ p q i j n) := fun v' t' => by
    rw [hR, fX6_copy_e]
    exact propext ⟨fun h => Prod.ext (by simpa using h.1) h.2, fun h => ⟨by rw [← h], by rw [← h]⟩⟩
  by_cases h : 0 ≤ p ∧ p < 8
  · have hSp : xSh (10 + tn p) := sh8 h
    by_cases hq : 0 ≤ q ∧ q < 8
    · have hSq : xSh (10 + tn q) := sh8 hq
      have hzp := hp1 (tn p) (tn8 h)
      have hzq := hp1 (tn q) (tn8 hq)
      refine xgo0 70 ?_
      simp (config := {maxSteps := 4000000, implicitDefEqProofs := false}) only [xwp_2, xwp_0, xwp_1, xws_s, xdd_o, xld_0, xld_s, xs1_0, xs1_1, xs1_s, xs2_0, xs2_1, xs2_s, xlg_n, xlg_i, xlg_r, xlg_z, xlg_l, xf4_0, xf4_1, xf4_2, xf4_3, xgo_e, xcmp_eq, xcmp_ne, xcmp_lt, xcmp_ge, xcmp_gt, xcmp_le, xfg_0, xfg_1, xfg_2, xfg_3, xfg_4, xpop_0, xpop_s, xsw_n, xsw_c, xtb_n, xtb_c, xenp_n, xenp_i, xenp_r, xenp_z, xenp_l, xrep_0, xrep_s, Nat.reduceSub, true_and, and_true, cat_i, cat_r, Nat.reduceAdd, Nat.reduceLT, Nat.reduceLeDiff, Nat.reduceEqDiff, xnc, Int.reduceAdd, Int.reduceSub, Int.reduceNeg, Int.reduceLE, Int.reduceLT, Int.reduceToNat, ↓reduceIte, List.length_cons, List.length_nil, xlc0, xlc1, ite_10, i10, i01, i0_2, i0_3, i0_4, i0_6, i0_7, i0_8, i0_49, i0_10, or_true, true_or, or_false, false_or, not_false_eq_true, not_true_eq_false, xnt, xI_g, eq_self, xI_2, xJ_1, false_and, and_false, obT_t, obS_t, ob6_t, ob2_t, ob0_t, kT1_t, kT2_t, kT3_t, kT4_t, lT1, lT2, rT6, rT7, rT8, rT9, rT1i, rT2i, rS2, kSe_t, lSe, r0_0, r0_1, r0_2, r0_3, r0_4, r0_5, r0_6, r0_7, r0_8, r0_9, r1_i, r2_4, r2_5, r4_4, a1_t, a3_t, a5_t, a6_t, a7_t, a8_t, l1, l3, l5, l6, l7, l8, T1, T2, T3, T4, nI8, nI6, nI160, nI20, nI401, nI49, ob5_t, ob1_t, vp_tn, tn_def, lgc, dX6_copy_0, st_aload_n, dX6_copy_1, st_iload_n, dX6_copy_2, st_invokevirtual, dX6_copy_5, st_astore, dX6_copy_7, dX6_copy_8, dX6_copy_9, dX6_copy_12, dX6_copy_14, st_aload, dX6_copy_16, st_ifnull, dX6_copy_19, dX6_copy_21, st_ifnonnull, dX6_copy_24, dX6_copy_25, st_iconst, dX6_copy_26, dX6_copy_29, st_ireturn, dX6_copy_30, dX6_copy_32, dX6_copy_35, st_ifCond, dX6_copy_38, dX6_copy_40, dX6_copy_43, dX6_copy_46, dX6_copy_47, st_goto, dX6_copy_50, dX6_copy_51, st_istore, dX6_copy_53, dX6_copy_55, dX6_copy_58, dX6_copy_61, dX6_copy_63, dX6_copy_66, dX6_copy_69, st_iload, dX6_copy_71, dX6_copy_74, dX6_copy_76, st_getfield, fl_X6_93, dX6_copy_79, dX6_copy_81, dX6_copy_84, st_if_icmp, dX6_copy_87, dX6_copy_88, st_bipush, dX6_copy_90, dX6_copy_93, dX6_copy_94, dX6_copy_96, dX6_copy_99, dX6_copy_100, dX6_copy_102, dX6_copy_105, dX6_copy_106, dX6_copy_108, dX6_copy_111, dX6_copy_112, dX6_copy_114, dX6_copy_117, dX6_copy_118, dX6_copy_120, dX6_copy_122, dX6_copy_123, dX6_copy_125, dX6_copy_127, dX6_copy_130, dX6_copy_133, dX6_copy_134, dX6_copy_137, dX6_copy_138, dX6_copy_140, dX6_copy_143, c_X6_copy_62, pX6_shelfBy_e, fX6_shelfBy_e, Option.toList_some, Option.toList_none, List.cons_append, List.nil_append, c_X6_copy_66, pX6_refuse_e, fX6_refuse_e, c_X6_copy_86, pX3_hasRow_e, fX3_hasRow_e, c_X6_copy_90, pX3_hasWalker_e, fX3_hasWalker_e, c_X6_copy_96, pX3_takeOver_e, fX3_takeOver_e, ofI_m1, ofJ_1, ofI_0, ofI_m2, ofI_m3, ofI_m4, ofI_m5, hp1, h, hSp, hq, hSq, hzp, hzq]
      clear hR
      simp only [hR2, copyX, noX]
      clear hR2
      generalize σ.1 (10 + tn p) 1 - i = u1 at *
      generalize σ.1 (10 + tn q) 1 - j = u2 at *
      grind (splits := 40)
    · refine xgo0 70 ?_
      simp (config := {maxSteps := 4000000, implicitDefEqProofs := false}) only [xwp_2, xwp_0, xwp_1, xws_s, xdd_o, xld_0, xld_s, xs1_0, xs1_1, xs1_s, xs2_0, xs2_1, xs2_s, xlg_n, xlg_i, xlg_r, xlg_z, xlg_l, xf4_0, xf4_1, xf4_2, xf4_3, xgo_e, xcmp_eq, xcmp_ne, xcmp_lt, xcmp_ge, xcmp_gt, xcmp_le, xfg_0, xfg_1, xfg_2, xfg_3, xfg_4, xpop_0, xpop_s, xsw_n, xsw_c, xtb_n, xtb_c, xenp_n, xenp_i, xenp_r, xenp_z, xenp_l, xrep_0, xrep_s, Nat.reduceSub, true_and, and_true, cat_i, cat_r, Nat.reduceAdd, Nat.reduceLT, Nat.reduceLeDiff, Nat.reduceEqDiff, xnc, Int.reduceAdd, Int.reduceSub, Int.reduceNeg, Int.reduceLE, Int.reduceLT, Int.reduceToNat, ↓reduceIte, List.length_cons, List.length_nil, xlc0, xlc1, ite_10, i10, i01, i0_2, i0_3, i0_4, i0_6, i0_7, i0_8, i0_49, i0_10, or_true, true_or, or_false, false_or, not_false_eq_true, not_true_eq_false, xnt, xI_g, eq_self, xI_2, xJ_1, false_and, and_false, obT_t, obS_t, ob6_t, ob2_t, ob0_t, kT1_t, kT2_t, kT3_t, kT4_t, lT1, lT2, rT6, rT7, rT8, rT9, rT1i, rT2i, rS2, kSe_t, lSe, r0_0, r0_1, r0_2, r0_3, r0_4, r0_5, r0_6, r0_7, r0_8, r0_9, r1_i, r2_4, r2_5, r4_4, a1_t, a3_t, a5_t, a6_t, a7_t, a8_t, l1, l3, l5, l6, l7, l8, T1, T2, T3, T4, nI8, nI6, nI160, nI20, nI401, nI49, ob5_t, ob1_t, vp_tn, tn_def, lgc, dX6_copy_0, st_aload_n, dX6_copy_1, st_iload_n, dX6_copy_2, st_invokevirtual, dX6_copy_5, st_astore, dX6_copy_7, dX6_copy_8, dX6_copy_9, dX6_copy_12, dX6_copy_14, st_aload, dX6_copy_16, st_ifnull, dX6_copy_19, dX6_copy_21, st_ifnonnull, dX6_copy_24, dX6_copy_25, st_iconst, dX6_copy_26, dX6_copy_29, st_ireturn, dX6_copy_30, dX6_copy_32, dX6_copy_35, st_ifCond, dX6_copy_38, dX6_copy_40, dX6_copy_43, dX6_copy_46, dX6_copy_47, st_goto, dX6_copy_50, dX6_copy_51, st_istore, dX6_copy_53, dX6_copy_55, dX6_copy_58, dX6_copy_61, dX6_copy_63, dX6_copy_66, dX6_copy_69, st_iload, dX6_copy_71, dX6_copy_74, dX6_copy_76, st_getfield, fl_X6_93, dX6_copy_79, dX6_copy_81, dX6_copy_84, st_if_icmp, dX6_copy_87, dX6_copy_88, st_bipush, dX6_copy_90, dX6_copy_93, dX6_copy_94, dX6_copy_96, dX6_copy_99, dX6_copy_100, dX6_copy_102, dX6_copy_105, dX6_copy_106, dX6_copy_108, dX6_copy_111, dX6_copy_112, dX6_copy_114, dX6_copy_117, dX6_copy_118, dX6_copy_120, dX6_copy_122, dX6_copy_123, dX6_copy_125, dX6_copy_127, dX6_copy_130, dX6_copy_133, dX6_copy_134, dX6_copy_137, dX6_copy_138, dX6_copy_140, dX6_copy_143, c_X6_copy_62, pX6_shelfBy_e, fX6_shelfBy_e, Option.toList_some, Option.toList_none, List.cons_append, List.nil_append, c_X6_copy_66, pX6_refuse_e, fX6_refuse_e, c_X6_copy_86, pX3_hasRow_e, fX3_hasRow_e, c_X6_copy_90, pX3_hasWalker_e, fX3_hasWalker_e, c_X6_copy_96, pX3_takeOver_e, fX3_takeOver_e, ofI_m1, ofJ_1, ofI_0, ofI_m2, ofI_m3, ofI_m4, ofI_m5, hp1, h, hSp, hq]
      clear hR
      simp only [hR2, copyX, noX]
      clear hR2
      grind (splits := 40)
  · by_cases hq : 0 ≤ q ∧ q < 8
    · have hSq : xSh (10 + tn q) := sh8 hq
      refine xgo0 70 ?_
      simp (config := {maxSteps := 4000000, implicitDefEqProofs := false}) only [xwp_2, xwp_0, xwp_1, xws_s, xdd_o, xld_0, xld_s, xs1_0, xs1_1, xs1_s, xs2_0, xs2_1, xs2_s, xlg_n, xlg_i, xlg_r, xlg_z, xlg_l, xf4_0, xf4_1, xf4_2, xf4_3, xgo_e, xcmp_eq, xcmp_ne, xcmp_lt, xcmp_ge, xcmp_gt, xcmp_le, xfg_0, xfg_1, xfg_2, xfg_3, xfg_4, xpop_0, xpop_s, xsw_n, xsw_c, xtb_n, xtb_c, xenp_n, xenp_i, xenp_r, xenp_z, xenp_l, xrep_0, xrep_s, Nat.reduceSub, true_and, and_true, cat_i, cat_r, Nat.reduceAdd, Nat.reduceLT, Nat.reduceLeDiff, Nat.reduceEqDiff, xnc, Int.reduceAdd, Int.reduceSub, Int.reduceNeg, Int.reduceLE, Int.reduceLT, Int.reduceToNat, ↓reduceIte, List.length_cons, List.length_nil, xlc0, xlc1, ite_10, i10, i01, i0_2, i0_3, i0_4, i0_6, i0_7, i0_8, i0_49, i0_10, or_true, true_or, or_false, false_or, not_false_eq_true, not_true_eq_false, xnt, xI_g, eq_self, xI_2, xJ_1, false_and, and_false, obT_t, obS_t, ob6_t, ob2_t, ob0_t, kT1_t, kT2_t, kT3_t, kT4_t, lT1, lT2, rT6, rT7, rT8, rT9, rT1i, rT2i, rS2, kSe_t, lSe, r0_0, r0_1, r0_2, r0_3, r0_4, r0_5, r0_6, r0_7, r0_8, r0_9, r1_i, r2_4, r2_5, r4_4, a1_t, a3_t, a5_t, a6_t, a7_t, a8_t, l1, l3, l5, l6, l7, l8, T1, T2, T3, T4, nI8, nI6, nI160, nI20, nI401, nI49, ob5_t, ob1_t, vp_tn, tn_def, lgc, dX6_copy_0, st_aload_n, dX6_copy_1, st_iload_n, dX6_copy_2, st_invokevirtual, dX6_copy_5, st_astore, dX6_copy_7, dX6_copy_8, dX6_copy_9, dX6_copy_12, dX6_copy_14, st_aload, dX6_copy_16, st_ifnull, dX6_copy_19, dX6_copy_21, st_ifnonnull, dX6_copy_24, dX6_copy_25, st_iconst, dX6_copy_26, dX6_copy_29, st_ireturn, dX6_copy_30, dX6_copy_32, dX6_copy_35, st_ifCond, dX6_copy_38, dX6_copy_40, dX6_copy_43, dX6_copy_46, dX6_copy_47, st_goto, dX6_copy_50, dX6_copy_51, st_istore, dX6_copy_53, dX6_copy_55, dX6_copy_58, dX6_copy_61, dX6_copy_63, dX6_copy_66, dX6_copy_69, st_iload, dX6_copy_71, dX6_copy_74, dX6_copy_76, st_getfield, fl_X6_93, dX6_copy_79, dX6_copy_81, dX6_copy_84, st_if_icmp, dX6_copy_87, dX6_copy_88, st_bipush, dX6_copy_90, dX6_copy_93, dX6_copy_94, dX6_copy_96, dX6_copy_99, dX6_copy_100, dX6_copy_102, dX6_copy_105, dX6_copy_106, dX6_copy_108, dX6_copy_111, dX6_copy_112, dX6_copy_114, dX6_copy_117, dX6_copy_118, dX6_copy_120, dX6_copy_122, dX6_copy_123, dX6_copy_125, dX6_copy_127, dX6_copy_130, dX6_copy_133, dX6_copy_134, dX6_copy_137, dX6_copy_138, dX6_copy_140, dX6_copy_143, c_X6_copy_62, pX6_shelfBy_e, fX6_shelfBy_e, Option.toList_some, Option.toList_none, List.cons_append, List.nil_append, c_X6_copy_66, pX6_refuse_e, fX6_refuse_e, c_X6_copy_86, pX3_hasRow_e, fX3_hasRow_e, c_X6_copy_90, pX3_hasWalker_e, fX3_hasWalker_e, c_X6_copy_96, pX3_takeOver_e, fX3_takeOver_e, ofI_m1, ofJ_1, ofI_0, ofI_m2, ofI_m3, ofI_m4, ofI_m5, hp1, h, hq, hSq]
      clear hR
      simp only [hR2, copyX, noX]
      clear hR2
      grind (splits := 40)
    · refine xgo0 70 ?_
      simp (config := {maxSteps := 4000000, implicitDefEqProofs := false}) only [xwp_2, xwp_0, xwp_1, xws_s, xdd_o, xld_0, xld_s, xs1_0, xs1_1, xs1_s, xs2_0, xs2_1, xs2_s, xlg_n, xlg_i, xlg_r, xlg_z, xlg_l, xf4_0, xf4_1, xf4_2, xf4_3, xgo_e, xcmp_eq, xcmp_ne, xcmp_lt, xcmp_ge, xcmp_gt, xcmp_le, xfg_0, xfg_1, xfg_2, xfg_3, xfg_4, xpop_0, xpop_s, xsw_n, xsw_c, xtb_n, xtb_c, xenp_n, xenp_i, xenp_r, xenp_z, xenp_l, xrep_0, xrep_s, Nat.reduceSub, true_and, and_true, cat_i, cat_r, Nat.reduceAdd, Nat.reduceLT, Nat.reduceLeDiff, Nat.reduceEqDiff, xnc, Int.reduceAdd, Int.reduceSub, Int.reduceNeg, Int.reduceLE, Int.reduceLT, Int.reduceToNat, ↓reduceIte, List.length_cons, List.length_nil, xlc0, xlc1, ite_10, i10, i01, i0_2, i0_3, i0_4, i0_6, i0_7, i0_8, i0_49, i0_10, or_true, true_or, or_false, false_or, not_false_eq_true, not_true_eq_false, xnt, xI_g, eq_self, xI_2, xJ_1, false_and, and_false, obT_t, obS_t, ob6_t, ob2_t, ob0_t, kT1_t, kT2_t, kT3_t, kT4_t, lT1, lT2, rT6, rT7, rT8, rT9, rT1i, rT2i, rS2, kSe_t, lSe, r0_0, r0_1, r0_2, r0_3, r0_4, r0_5, r0_6, r0_7, r0_8, r0_9, r1_i, r2_4, r2_5, r4_4, a1_t, a3_t, a5_t, a6_t, a7_t, a8_t, l1, l3, l5, l6, l7, l8, T1, T2, T3, T4, nI8, nI6, nI160, nI20, nI401, nI49, ob5_t, ob1_t, vp_tn, tn_def, lgc, dX6_copy_0, st_aload_n, dX6_copy_1, st_iload_n, dX6_copy_2, st_invokevirtual, dX6_copy_5, st_astore, dX6_copy_7, dX6_copy_8, dX6_copy_9, dX6_copy_12, dX6_copy_14, st_aload, dX6_copy_16, st_ifnull, dX6_copy_19, dX6_copy_21, st_ifnonnull, dX6_copy_24, dX6_copy_25, st_iconst, dX6_copy_26, dX6_copy_29, st_ireturn, dX6_copy_30, dX6_copy_32, dX6_copy_35, st_ifCond, dX6_copy_38, dX6_copy_40, dX6_copy_43, dX6_copy_46, dX6_copy_47, st_goto, dX6_copy_50, dX6_copy_51, st_istore, dX6_copy_53, dX6_copy_55, dX6_copy_58, dX6_copy_61, dX6_copy_63, dX6_copy_66, dX6_copy_69, st_iload, dX6_copy_71, dX6_copy_74, dX6_copy_76, st_getfield, fl_X6_93, dX6_copy_79, dX6_copy_81, dX6_copy_84, st_if_icmp, dX6_copy_87, dX6_copy_88, st_bipush, dX6_copy_90, dX6_copy_93, dX6_copy_94, dX6_copy_96, dX6_copy_99, dX6_copy_100, dX6_copy_102, dX6_copy_105, dX6_copy_106, dX6_copy_108, dX6_copy_111, dX6_copy_112, dX6_copy_114, dX6_copy_117, dX6_copy_118, dX6_copy_120, dX6_copy_122, dX6_copy_123, dX6_copy_125, dX6_copy_127, dX6_copy_130, dX6_copy_133, dX6_copy_134, dX6_copy_137, dX6_copy_138, dX6_copy_140, dX6_copy_143, c_X6_copy_62, pX6_shelfBy_e, fX6_shelfBy_e, Option.toList_some, Option.toList_none, List.cons_append, List.nil_append, c_X6_copy_66, pX6_refuse_e, fX6_refuse_e, c_X6_copy_86, pX3_hasRow_e, fX3_hasRow_e, c_X6_copy_90, pX3_hasWalker_e, fX3_hasWalker_e, c_X6_copy_96, pX3_takeOver_e, fX3_takeOver_e, ofI_m1, ofJ_1, ofI_0, ofI_m2, ofI_m3, ofI_m4, ofI_m5, hp1, h, hq]
      clear hR
      simp only [hR2, copyX, noX]
      clear hR2
      grind (splits := 40)
theorem rX6_copy : ∀ as σ, pX6_copy as σ → ∃ K as', as = .ref K :: as' ∧ xob WX K 6 := by
  rintro as σ ⟨p, q, i, j, n, rfl, hpre⟩
  exact ⟨_, _, rfl, by first | exact hpre | exact hpre.1 | exact obT hpre | exact obT hpre.1 | exact obS hpre | exact obS hpre.1 | exact obM | exact ob6 | exact ob2 | exact ob0⟩
def elX (σ : xS) (s i : Int32) : Int64 := if 0 ≤ s ∧ s < 8 then (if 0 ≤ i ∧ i < σ.1 (10 + tn s) 1 ∧ i < 160 then σ.2 (10 + tn s + 10) (tn i) else 0) else 0
def pX6_element (as : List Value) (σ : xS) : Prop := ∃ (s : Int32) (i : Int32), as = [.ref 0, .int s, .int i] ∧ (True)
def fX6_element (as : List Value) (σ : xS) : Option Value × xS := match as with
  | [.ref 0, .int s, .int i] => (some (.long (elX σ s i)), σ)
  | _ => (none, σ)
theorem pX6_element_e {s : Int32} {i : Int32} {σ : xS} : pX6_element [.ref 0, .int s, .int i] σ = (True) := propext ⟨fun h => by obtain ⟨s, i, e, h⟩ := h; cases e; exact h, fun h => ⟨s, i, rfl, h⟩⟩
theorem fX6_element_e {s : Int32} {i : Int32} {σ : xS} : fX6_element [.ref 0, .int s, .int i] σ = (some (.long (elX σ s i)), σ) := rfl
def calX6_element : List (Nat × xCall) := [(62, (false, 2, pX6_shelfBy, fX6_shelfBy)), (100, (false, 2, pX3_elementAt, fX3_elementAt))]
theorem c_X6_element_62 : xlk calX6_element 62 = some (false, 2, pX6_shelfBy, fX6_shelfBy) := rfl
theorem c_X6_element_100 : xlk calX6_element 100 = some (false, 2, pX3_elementAt, fX3_elementAt) := rfl
set_option maxHeartbeats 4000000 in
set_option maxRecDepth 100000 in
theorem mX6_element : xMet WX yX6_element cX6_element 4 (some .long) 3 pX6_element fX6_element := by
  refine xMet_of (fld := xlk fldX6) (cal := xlk calX6_element) (ks := xlk []) (gs := xlk []) (ro := fun _ => none) 2 (by decide) WX_nd rfl fldX6_ok xKs_nil xGs_nil (Or.inr rfl) (xcal_cons (xCk_V mX6_shelfBy 6 (by decide) (by decide) (by decide) rfl (fun as σ h _ => rX6_shelfBy as σ h) w_X6_62 ⟨by decide, by decide, by decide +kernel⟩) (xcal_cons (xCk_V mX3_elementAt 3 (by decide) (by decide) (by decide) rfl (fun as σ h _ => rX3_elementAt as σ h) w_X6_100 ⟨by decide, by decide, by decide +kernel⟩) xcal_nil)) ?_ ?_
  · rintro av σ ⟨s, i, rfl, hpre⟩
    exact Nat.le_of_ble_eq_true rfl
  rintro av σ ⟨s, i, rfl, hp1⟩ Rt hR
  by_cases h : 0 ≤ s ∧ s < 8
  · have hSs : xSh (10 + tn s) := sh8 h
    refine xgo0 14 ?_
    simp -implicitDefEqProofs only [xwp_2, xwp_0, xwp_1, xws_s, xdd_o, xld_0, xld_s, xs1_0, xs1_1, xs1_s, xs2_0, xs2_1, xs2_s, xlg_n, xlg_i, xlg_r, xlg_z, xlg_l, xf4_0, xf4_1, xf4_2, xf4_3, xgo_e, xcmp_eq, xcmp_ne, xcmp_lt, xcmp_ge, xcmp_gt, xcmp_le, xfg_0, xfg_1, xfg_2, xfg_3, xfg_4, xpop_0, xpop_s, xsw_n, xsw_c, xtb_n, xtb_c, xenp_n, xenp_i, xenp_r, xenp_z, xenp_l, xrep_0, xrep_s, Nat.reduceSub, true_and, and_true, cat_i, cat_r, Nat.reduceAdd, Nat.reduceLT, Nat.reduceLeDiff, Nat.reduceEqDiff, xnc, Int.reduceAdd, Int.reduceSub, Int.reduceNeg, Int.reduceLE, Int.reduceLT, Int.reduceToNat, ↓reduceIte, List.length_cons, List.length_nil, xlc0, xlc1, ite_10, i10, i01, i0_2, i0_3, i0_4, i0_6, i0_7, i0_8, i0_49, i0_10, or_true, true_or, or_false, false_or, not_false_eq_true, not_true_eq_false, xnt, xI_g, eq_self, xI_2, xJ_1, false_and, and_false, obT_t, obS_t, ob6_t, ob2_t, ob0_t, kT1_t, kT2_t, kT3_t, kT4_t, lT1, lT2, rT6, rT7, rT8, rT9, rT1i, rT2i, rS2, kSe_t, lSe, r0_0, r0_1, r0_2, r0_3, r0_4, r0_5, r0_6, r0_7, r0_8, r0_9, r1_i, r2_4, r2_5, r4_4, a1_t, a3_t, a5_t, a6_t, a7_t, a8_t, l1, l3, l5, l6, l7, l8, T1, T2, T3, T4, nI8, nI6, nI160, nI20, nI401, nI49, ob5_t, ob1_t, vp_tn, tn_def, lgc, dX6_element_0, st_aload_n, dX6_element_1, st_iload_n, dX6_element_2, st_invokevirtual, dX6_element_5, st_astore_n, dX6_element_6, dX6_element_7, st_ifnonnull, dX6_element_10, st_lconst, dX6_element_11, st_goto, dX6_element_14, dX6_element_15, dX6_element_16, dX6_element_19, st_lreturn, c_X6_element_62, pX6_shelfBy_e, fX6_shelfBy_e, Option.toList_some, Option.toList_none, List.cons_append, List.nil_append, c_X6_element_100, pX3_elementAt_e, fX3_elementAt_e, hp1, h, hSs]
    simp only [hR, fX6_element_e, elX, h]
    clear hR
    grind
  · refine xgo0 14 ?_
    simp -implicitDefEqProofs only [xwp_2, xwp_0, xwp_1, xws_s, xdd_o, xld_0, xld_s, xs1_0, xs1_1, xs1_s, xs2_0, xs2_1, xs2_s, xlg_n, xlg_i, xlg_r, xlg_z, xlg_l, xf4_0, xf4_1, xf4_2, xf4_3, xgo_e, xcmp_eq, xcmp_ne, xcmp_lt, xcmp_ge, xcmp_gt, xcmp_le, xfg_0, xfg_1, xfg_2, xfg_3, xfg_4, xpop_0, xpop_s, xsw_n, xsw_c, xtb_n, xtb_c, xenp_n, xenp_i, xenp_r, xenp_z, xenp_l, xrep_0, xrep_s, Nat.reduceSub, true_and, and_true, cat_i, cat_r, Nat.reduceAdd, Nat.reduceLT, Nat.reduceLeDiff, Nat.reduceEqDiff, xnc, Int.reduceAdd, Int.reduceSub, Int.reduceNeg, Int.reduceLE, Int.reduceLT, Int.reduceToNat, ↓reduceIte, List.length_cons, List.length_nil, xlc0, xlc1, ite_10, i10, i01, i0_2, i0_3, i0_4, i0_6, i0_7, i0_8, i0_49, i0_10, or_true, true_or, or_false, false_or, not_false_eq_true, not_true_eq_false, xnt, xI_g, eq_self, xI_2, xJ_1, false_and, and_false, obT_t, obS_t, ob6_t, ob2_t, ob0_t, kT1_t, kT2_t, kT3_t, kT4_t, lT1, lT2, rT6, rT7, rT8, rT9, rT1i, rT2i, rS2, kSe_t, lSe, r0_0, r0_1, r0_2, r0_3, r0_4, r0_5, r0_6, r0_7, r0_8, r0_9, r1_i, r2_4, r2_5, r4_4, a1_t, a3_t, a5_t, a6_t, a7_t, a8_t, l1, l3, l5, l6, l7, l8, T1, T2, T3, T4, nI8, nI6, nI160, nI20, nI401, nI49, ob5_t, ob1_t, vp_tn, tn_def, lgc, dX6_element_0, st_aload_n, dX6_element_1, st_iload_n, dX6_element_2, st_invokevirtual, dX6_element_5, st_astore_n, dX6_element_6, dX6_element_7, st_ifnonnull, dX6_element_10, st_lconst, dX6_element_11, st_goto, dX6_element_14, dX6_element_15, dX6_element_16, dX6_element_19, st_lreturn, c_X6_element_62, pX6_shelfBy_e, fX6_shelfBy_e, Option.toList_some, Option.toList_none, List.cons_append, List.nil_append, c_X6_element_100, pX3_elementAt_e, fX3_elementAt_e, hp1, h]
    simp only [hR, fX6_element_e, elX, h]
    clear hR
    grind
theorem rX6_element : ∀ as σ, pX6_element as σ → ∃ K as', as = .ref K :: as' ∧ xob WX K 6 := by
  rintro as σ ⟨s, i, rfl, hpre⟩
  exact ⟨_, _, rfl, by first | exact hpre | exact hpre.1 | exact obT hpre | exact obT hpre.1 | exact obS hpre | exact obS hpre.1 | exact obM | exact ob6 | exact ob2 | exact ob0⟩
def showX (σ : xS) (s x : Int32) : Int32 × xS := if (0 ≤ s ∧ s < 8) ∧ (x = -1 ∨ (0 ≤ x ∧ x < σ.1 100 2)) then ((if x = -1 then 0 else 1), xI (xI σ (10 + tn s) 0 x) (10 + tn s) 1 0) else noX σ (-1)
def hldX (σ : xS) (s : Int32) : Int32 := if 0 ≤ s ∧ s < 8 then σ.1 (10 + tn s) 0 else -1
def saysX (σ : xS) (s k : Int32) : Int32 × xS := if 0 ≤ s ∧ s < 8 then (if ¬ (0 ≤ k ∧ k ≤ 6) then noX σ (-1) else if 100 ≤ σ.1 (10 + tn s) 0 then noX σ (-2) else if ¬ (0 ≤ σ.1 (10 + tn s) 0 ∧ σ.1 (10 + tn s) 0 < 100) then noX σ (-3) else if iuV (σ.1 (whoK 100 (σ.1 (10 + tn s) 0)) 0) k = 0 then noX σ (-2) else (sayX σ 100 (σ.1 (10 + tn s) 0) k, σ)) else noX σ (-1)
def pX6_show (as : List Value) (σ : xS) : Prop := ∃ (s : Int32) (x : Int32), as = [.ref 0, .int s, .int x] ∧ (True)
def fX6_show (as : List Value) (σ : xS) : Option Value × xS := match as with
  | [.ref 0, .int s, .int x] => (some (.int (showX σ s x).1), (showX σ s x).2)
  | _ => (none, σ)
theorem pX6_show_e {s : Int32} {x : Int32} {σ : xS} : pX6_show [.ref 0, .int s, .int x] σ = (True) := propext ⟨fun h => by obtain ⟨s, x, e, h⟩ := h; cases e; exact h, fun h => ⟨s, x, rfl, h⟩⟩
theorem fX6_show_e {s : Int32} {x : Int32} {σ : xS} : fX6_show [.ref 0, .int s, .int x] σ = (some (.int (showX σ s x).1), (showX σ s x).2) := rfl
def calX6_show : List (Nat × xCall) := [(62, (false, 2, pX6_shelfBy, fX6_shelfBy)), (104, (false, 2, pX4_hasWalker, fX4_hasWalker)), (66, (false, 2, pX6_refuse, fX6_refuse)), (106, (false, 2, pX3_hold, fX3_hold))]
theorem c_X6_show_62 : xlk calX6_show 62 = some (false, 2, pX6_shelfBy, fX6_shelfBy) := rfl
theorem c_X6_show_104 : xlk calX6_show 104 = some (false, 2, pX4_hasWalker, fX4_hasWalker) := rfl
theorem c_X6_show_66 : xlk calX6_show 66 = some (false, 2, pX6_refuse, fX6_refuse) := rfl
theorem c_X6_show_106 : xlk calX6_show 106 = some (false, 2, pX3_hold, fX3_hold) := rfl
set_option maxHeartbeats 4000000 in
set_option maxRecDepth 100000 in
theorem mX6_show : xMet WX yX6_show cX6_show 4 (some .int) 2 pX6_show fX6_show := by
  refine xMet_of (fld := xlk fldX6) (cal := xlk calX6_show) (ks := xlk []) (gs := xlk []) (ro := fun _ => none) 0 (by decide) WX_nd rfl fldX6_ok xKs_nil xGs_nil (Or.inr rfl) (xcal_cons (xCk_V mX6_shelfBy 6 (by decide) (by decide) (by decide) rfl (fun as σ h _ => rX6_shelfBy as σ h) w_X6_62 ⟨by decide, by decide, by decide +kernel⟩) (xcal_cons (xCk_V mX4_hasWalker 4 (by decide) (by decide) (by decide) rfl (fun as σ h _ => rX4_hasWalker as σ h) w_X6_104 ⟨by decide, by decide, by decide +kernel⟩) (xcal_cons (xCk_V mX6_refuse 6 (by decide) (by decide) (by decide) rfl (fun as σ h _ => rX6_refuse as σ h) w_X6_66 ⟨by decide, by decide, by decide +kernel⟩) (xcal_cons (xCk_V mX3_hold 3 (by decide) (by decide) (by decide) rfl (fun as σ h _ => rX3_hold as σ h) w_X6_106 ⟨by decide, by decide, by decide +kernel⟩) xcal_nil)))) ?_ ?_
  · rintro av σ ⟨s, x, rfl, hpre⟩
    exact Nat.le_of_ble_eq_true rfl
  rintro av σ ⟨s, x, rfl, hp1⟩ Rt hR
  have hR2 : ∀ v' t', Rt (some (.int v')) t' = ((v', t') = showX σ s x) := fun v' t' => by
    rw [hR, fX6_show_e]
    exact propext ⟨fun h => Prod.ext (by simpa using h.1) h.2, fun h => ⟨by rw [← h], by rw [← h]⟩⟩
  by_cases h : 0 ≤ s ∧ s < 8
  · have hSs : xSh (10 + tn s) := sh8 h
    refine xgo0 30 ?_
    simp (config := {maxSteps := 4000000, implicitDefEqProofs := false}) only [xwp_2, xwp_0, xwp_1, xws_s, xdd_o, xld_0, xld_s, xs1_0, xs1_1, xs1_s, xs2_0, xs2_1, xs2_s, xlg_n, xlg_i, xlg_r, xlg_z, xlg_l, xf4_0, xf4_1, xf4_2, xf4_3, xgo_e, xcmp_eq, xcmp_ne, xcmp_lt, xcmp_ge, xcmp_gt, xcmp_le, xfg_0, xfg_1, xfg_2, xfg_3, xfg_4, xpop_0, xpop_s, xsw_n, xsw_c, xtb_n, xtb_c, xenp_n, xenp_i, xenp_r, xenp_z, xenp_l, xrep_0, xrep_s, Nat.reduceSub, true_and, and_true, cat_i, cat_r, Nat.reduceAdd, Nat.reduceLT, Nat.reduceLeDiff, Nat.reduceEqDiff, xnc, Int.reduceAdd, Int.reduceSub, Int.reduceNeg, Int.reduceLE, Int.reduceLT, Int.reduceToNat, ↓reduceIte, List.length_cons, List.length_nil, xlc0, xlc1, ite_10, i10, i01, i0_2, i0_3, i0_4, i0_6, i0_7, i0_8, i0_49, i0_10, or_true, true_or, or_false, false_or, not_false_eq_true, not_true_eq_false, xnt, xI_g, eq_self, xI_2, xJ_1, false_and, and_false, obT_t, obS_t, ob6_t, ob2_t, ob0_t, kT1_t, kT2_t, kT3_t, kT4_t, lT1, lT2, rT6, rT7, rT8, rT9, rT1i, rT2i, rS2, kSe_t, lSe, r0_0, r0_1, r0_2, r0_3, r0_4, r0_5, r0_6, r0_7, r0_8, r0_9, r1_i, r2_4, r2_5, r4_4, a1_t, a3_t, a5_t, a6_t, a7_t, a8_t, l1, l3, l5, l6, l7, l8, T1, T2, T3, T4, nI8, nI6, nI160, nI20, nI401, nI49, ob5_t, ob1_t, vp_tn, tn_def, lgc, dX6_show_0, st_aload_n, dX6_show_1, st_iload_n, dX6_show_2, st_invokevirtual, dX6_show_5, st_astore_n, dX6_show_6, dX6_show_7, st_ifnull, dX6_show_10, dX6_show_11, st_iconst, dX6_show_12, st_if_icmp, dX6_show_15, dX6_show_16, st_getfield, fl_X6_18, dX6_show_19, dX6_show_20, dX6_show_23, st_ifCond, dX6_show_26, dX6_show_27, dX6_show_28, dX6_show_31, st_ireturn, dX6_show_32, dX6_show_33, dX6_show_34, dX6_show_37, dX6_show_38, dX6_show_39, dX6_show_42, dX6_show_43, st_goto, dX6_show_46, dX6_show_47, c_X6_show_62, pX6_shelfBy_e, fX6_shelfBy_e, Option.toList_some, Option.toList_none, List.cons_append, List.nil_append, c_X6_show_104, pX4_hasWalker_e, fX4_hasWalker_e, c_X6_show_66, pX6_refuse_e, fX6_refuse_e, c_X6_show_106, pX3_hold_e, fX3_hold_e, ofI_m1, ofI_0, ofJ_1, hp1, h, hSs]
    clear hR
    simp only [hR2, showX, noX]
    clear hR2
    grind (splits := 40)
  · refine xgo0 30 ?_
    simp (config := {maxSteps := 4000000, implicitDefEqProofs := false}) only [xwp_2, xwp_0, xwp_1, xws_s, xdd_o, xld_0, xld_s, xs1_0, xs1_1, xs1_s, xs2_0, xs2_1, xs2_s, xlg_n, xlg_i, xlg_r, xlg_z, xlg_l, xf4_0, xf4_1, xf4_2, xf4_3, xgo_e, xcmp_eq, xcmp_ne, xcmp_lt, xcmp_ge, xcmp_gt, xcmp_le, xfg_0, xfg_1, xfg_2, xfg_3, xfg_4, xpop_0, xpop_s, xsw_n, xsw_c, xtb_n, xtb_c, xenp_n, xenp_i, xenp_r, xenp_z, xenp_l, xrep_0, xrep_s, Nat.reduceSub, true_and, and_true, cat_i, cat_r, Nat.reduceAdd, Nat.reduceLT, Nat.reduceLeDiff, Nat.reduceEqDiff, xnc, Int.reduceAdd, Int.reduceSub, Int.reduceNeg, Int.reduceLE, Int.reduceLT, Int.reduceToNat, ↓reduceIte, List.length_cons, List.length_nil, xlc0, xlc1, ite_10, i10, i01, i0_2, i0_3, i0_4, i0_6, i0_7, i0_8, i0_49, i0_10, or_true, true_or, or_false, false_or, not_false_eq_true, not_true_eq_false, xnt, xI_g, eq_self, xI_2, xJ_1, false_and, and_false, obT_t, obS_t, ob6_t, ob2_t, ob0_t, kT1_t, kT2_t, kT3_t, kT4_t, lT1, lT2, rT6, rT7, rT8, rT9, rT1i, rT2i, rS2, kSe_t, lSe, r0_0, r0_1, r0_2, r0_3, r0_4, r0_5, r0_6, r0_7, r0_8, r0_9, r1_i, r2_4, r2_5, r4_4, a1_t, a3_t, a5_t, a6_t, a7_t, a8_t, l1, l3, l5, l6, l7, l8, T1, T2, T3, T4, nI8, nI6, nI160, nI20, nI401, nI49, ob5_t, ob1_t, vp_tn, tn_def, lgc, dX6_show_0, st_aload_n, dX6_show_1, st_iload_n, dX6_show_2, st_invokevirtual, dX6_show_5, st_astore_n, dX6_show_6, dX6_show_7, st_ifnull, dX6_show_10, dX6_show_11, st_iconst, dX6_show_12, st_if_icmp, dX6_show_15, dX6_show_16, st_getfield, fl_X6_18, dX6_show_19, dX6_show_20, dX6_show_23, st_ifCond, dX6_show_26, dX6_show_27, dX6_show_28, dX6_show_31, st_ireturn, dX6_show_32, dX6_show_33, dX6_show_34, dX6_show_37, dX6_show_38, dX6_show_39, dX6_show_42, dX6_show_43, st_goto, dX6_show_46, dX6_show_47, c_X6_show_62, pX6_shelfBy_e, fX6_shelfBy_e, Option.toList_some, Option.toList_none, List.cons_append, List.nil_append, c_X6_show_104, pX4_hasWalker_e, fX4_hasWalker_e, c_X6_show_66, pX6_refuse_e, fX6_refuse_e, c_X6_show_106, pX3_hold_e, fX3_hold_e, ofI_m1, ofI_0, ofJ_1, hp1, h]
    clear hR
    simp only [hR2, showX, noX]
    clear hR2
    grind (splits := 40)
theorem rX6_show : ∀ as σ, pX6_show as σ → ∃ K as', as = .ref K :: as' ∧ xob WX K 6 := by
  rintro as σ ⟨s, x, rfl, hpre⟩
  exact ⟨_, _, rfl, by first | exact hpre | exact hpre.1 | exact obT hpre | exact obT hpre.1 | exact obS hpre | exact obS hpre.1 | exact obM | exact ob6 | exact ob2 | exact ob0⟩
def pX6_holds (as : List Value) (σ : xS) : Prop := ∃ (s : Int32), as = [.ref 0, .int s] ∧ (True)
def fX6_holds (as : List Value) (σ : xS) : Option Value × xS := match as with
  | [.ref 0, .int s] => (some (.int (hldX σ s)), σ)
  | _ => (none, σ)
theorem pX6_holds_e {s : Int32} {σ : xS} : pX6_holds [.ref 0, .int s] σ = (True) := propext ⟨fun h => by obtain ⟨s, e, h⟩ := h; cases e; exact h, fun h => ⟨s, rfl, h⟩⟩
theorem fX6_holds_e {s : Int32} {σ : xS} : fX6_holds [.ref 0, .int s] σ = (some (.int (hldX σ s)), σ) := rfl
def calX6_holds : List (Nat × xCall) := [(62, (false, 2, pX6_shelfBy, fX6_shelfBy))]
theorem c_X6_holds_62 : xlk calX6_holds 62 = some (false, 2, pX6_shelfBy, fX6_shelfBy) := rfl
set_option maxHeartbeats 4000000 in
set_option maxRecDepth 100000 in
theorem mX6_holds : xMet WX yX6_holds cX6_holds 3 (some .int) 2 pX6_holds fX6_holds := by
  refine xMet_of (fld := xlk fldX6) (cal := xlk calX6_holds) (ks := xlk []) (gs := xlk []) (ro := fun _ => none) 0 (by decide) WX_nd rfl fldX6_ok xKs_nil xGs_nil (Or.inr rfl) (xcal_cons (xCk_V mX6_shelfBy 6 (by decide) (by decide) (by decide) rfl (fun as σ h _ => rX6_shelfBy as σ h) w_X6_62 ⟨by decide, by decide, by decide +kernel⟩) xcal_nil) ?_ ?_
  · rintro av σ ⟨s, rfl, hpre⟩
    exact Nat.le_of_ble_eq_true rfl
  rintro av σ ⟨s, rfl, hp1⟩ Rt hR
  by_cases h : 0 ≤ s ∧ s < 8
  · have hSs : xSh (10 + tn s) := sh8 h
    refine xgo0 13 ?_
    simp -implicitDefEqProofs only [xwp_2, xwp_0, xwp_1, xws_s, xdd_o, xld_0, xld_s, xs1_0, xs1_1, xs1_s, xs2_0, xs2_1, xs2_s, xlg_n, xlg_i, xlg_r, xlg_z, xlg_l, xf4_0, xf4_1, xf4_2, xf4_3, xgo_e, xcmp_eq, xcmp_ne, xcmp_lt, xcmp_ge, xcmp_gt, xcmp_le, xfg_0, xfg_1, xfg_2, xfg_3, xfg_4, xpop_0, xpop_s, xsw_n, xsw_c, xtb_n, xtb_c, xenp_n, xenp_i, xenp_r, xenp_z, xenp_l, xrep_0, xrep_s, Nat.reduceSub, true_and, and_true, cat_i, cat_r, Nat.reduceAdd, Nat.reduceLT, Nat.reduceLeDiff, Nat.reduceEqDiff, xnc, Int.reduceAdd, Int.reduceSub, Int.reduceNeg, Int.reduceLE, Int.reduceLT, Int.reduceToNat, ↓reduceIte, List.length_cons, List.length_nil, xlc0, xlc1, ite_10, i10, i01, i0_2, i0_3, i0_4, i0_6, i0_7, i0_8, i0_49, i0_10, or_true, true_or, or_false, false_or, not_false_eq_true, not_true_eq_false, xnt, xI_g, eq_self, xI_2, xJ_1, false_and, and_false, obT_t, obS_t, ob6_t, ob2_t, ob0_t, kT1_t, kT2_t, kT3_t, kT4_t, lT1, lT2, rT6, rT7, rT8, rT9, rT1i, rT2i, rS2, kSe_t, lSe, r0_0, r0_1, r0_2, r0_3, r0_4, r0_5, r0_6, r0_7, r0_8, r0_9, r1_i, r2_4, r2_5, r4_4, a1_t, a3_t, a5_t, a6_t, a7_t, a8_t, l1, l3, l5, l6, l7, l8, T1, T2, T3, T4, nI8, nI6, nI160, nI20, nI401, nI49, ob5_t, ob1_t, vp_tn, tn_def, lgc, dX6_holds_0, st_aload_n, dX6_holds_1, st_iload_n, dX6_holds_2, st_invokevirtual, dX6_holds_5, st_astore_n, dX6_holds_6, dX6_holds_7, st_ifnonnull, dX6_holds_10, st_iconst, dX6_holds_11, st_goto, dX6_holds_14, dX6_holds_15, st_getfield, fl_X6_93, dX6_holds_18, st_ireturn, c_X6_holds_62, pX6_shelfBy_e, fX6_shelfBy_e, Option.toList_some, Option.toList_none, List.cons_append, List.nil_append, ofI_m1, hp1, h, hSs]
    simp only [hR, fX6_holds_e, hldX, h]
    clear hR
    grind
  · refine xgo0 13 ?_
    simp -implicitDefEqProofs only [xwp_2, xwp_0, xwp_1, xws_s, xdd_o, xld_0, xld_s, xs1_0, xs1_1, xs1_s, xs2_0, xs2_1, xs2_s, xlg_n, xlg_i, xlg_r, xlg_z, xlg_l, xf4_0, xf4_1, xf4_2, xf4_3, xgo_e, xcmp_eq, xcmp_ne, xcmp_lt, xcmp_ge, xcmp_gt, xcmp_le, xfg_0, xfg_1, xfg_2, xfg_3, xfg_4, xpop_0, xpop_s, xsw_n, xsw_c, xtb_n, xtb_c, xenp_n, xenp_i, xenp_r, xenp_z, xenp_l, xrep_0, xrep_s, Nat.reduceSub, true_and, and_true, cat_i, cat_r, Nat.reduceAdd, Nat.reduceLT, Nat.reduceLeDiff, Nat.reduceEqDiff, xnc, Int.reduceAdd, Int.reduceSub, Int.reduceNeg, Int.reduceLE, Int.reduceLT, Int.reduceToNat, ↓reduceIte, List.length_cons, List.length_nil, xlc0, xlc1, ite_10, i10, i01, i0_2, i0_3, i0_4, i0_6, i0_7, i0_8, i0_49, i0_10, or_true, true_or, or_false, false_or, not_false_eq_true, not_true_eq_false, xnt, xI_g, eq_self, xI_2, xJ_1, false_and, and_false, obT_t, obS_t, ob6_t, ob2_t, ob0_t, kT1_t, kT2_t, kT3_t, kT4_t, lT1, lT2, rT6, rT7, rT8, rT9, rT1i, rT2i, rS2, kSe_t, lSe, r0_0, r0_1, r0_2, r0_3, r0_4, r0_5, r0_6, r0_7, r0_8, r0_9, r1_i, r2_4, r2_5, r4_4, a1_t, a3_t, a5_t, a6_t, a7_t, a8_t, l1, l3, l5, l6, l7, l8, T1, T2, T3, T4, nI8, nI6, nI160, nI20, nI401, nI49, ob5_t, ob1_t, vp_tn, tn_def, lgc, dX6_holds_0, st_aload_n, dX6_holds_1, st_iload_n, dX6_holds_2, st_invokevirtual, dX6_holds_5, st_astore_n, dX6_holds_6, dX6_holds_7, st_ifnonnull, dX6_holds_10, st_iconst, dX6_holds_11, st_goto, dX6_holds_14, dX6_holds_15, st_getfield, fl_X6_93, dX6_holds_18, st_ireturn, c_X6_holds_62, pX6_shelfBy_e, fX6_shelfBy_e, Option.toList_some, Option.toList_none, List.cons_append, List.nil_append, ofI_m1, hp1, h]
    simp only [hR, fX6_holds_e, hldX, h]
    clear hR
    grind
theorem rX6_holds : ∀ as σ, pX6_holds as σ → ∃ K as', as = .ref K :: as' ∧ xob WX K 6 := by
  rintro as σ ⟨s, rfl, hpre⟩
  exact ⟨_, _, rfl, by first | exact hpre | exact hpre.1 | exact obT hpre | exact obT hpre.1 | exact obS hpre | exact obS hpre.1 | exact obM | exact ob6 | exact ob2 | exact ob0⟩
def pX6_says (as : List Value) (σ : xS) : Prop := ∃ (s : Int32) (k : Int32), as = [.ref 0, .int s, .int k] ∧ ((0 ≤ σ.1 100 2) ∧ (σ.1 100 2 ≤ 6))
def fX6_says (as : List Value) (σ : xS) : Option Value × xS := match as with
  | [.ref 0, .int s, .int k] => (some (.int (saysX σ s k).1), (saysX σ s k).2)
  | _ => (none, σ)
theorem pX6_says_e {s : Int32} {k : Int32} {σ : xS} : pX6_says [.ref 0, .int s, .int k] σ = ((0 ≤ σ.1 100 2) ∧ (σ.1 100 2 ≤ 6)) := propext ⟨fun h => by obtain ⟨s, k, e, h⟩ := h; cases e; exact h, fun h => ⟨s, k, rfl, h⟩⟩
theorem fX6_says_e {s : Int32} {k : Int32} {σ : xS} : fX6_says [.ref 0, .int s, .int k] σ = (some (.int (saysX σ s k).1), (saysX σ s k).2) := rfl
def calX6_says : List (Nat × xCall) := [(62, (false, 2, pX6_shelfBy, fX6_shelfBy)), (110, (true, 2, pX6_isUpTo, fX6_isUpTo)), (66, (false, 2, pX6_refuse, fX6_refuse)), (86, (false, 1, pX3_hasRow, fX3_hasRow)), (90, (false, 1, pX3_hasWalker, fX3_hasWalker)), (114, (false, 2, pX4_who, fX4_who)), (123, (true, 2, pX0_isUnder, fX0_isUnder)), (126, (false, 3, pX4_said, fX4_said))]
theorem c_X6_says_62 : xlk calX6_says 62 = some (false, 2, pX6_shelfBy, fX6_shelfBy) := rfl
theorem c_X6_says_110 : xlk calX6_says 110 = some (true, 2, pX6_isUpTo, fX6_isUpTo) := rfl
theorem c_X6_says_66 : xlk calX6_says 66 = some (false, 2, pX6_refuse, fX6_refuse) := rfl
theorem c_X6_says_86 : xlk calX6_says 86 = some (false, 1, pX3_hasRow, fX3_hasRow) := rfl
theorem c_X6_says_90 : xlk calX6_says 90 = some (false, 1, pX3_hasWalker, fX3_hasWalker) := rfl
theorem c_X6_says_114 : xlk calX6_says 114 = some (false, 2, pX4_who, fX4_who) := rfl
theorem c_X6_says_123 : xlk calX6_says 123 = some (true, 2, pX0_isUnder, fX0_isUnder) := rfl
theorem c_X6_says_126 : xlk calX6_says 126 = some (false, 3, pX4_said, fX4_said) := rfl
set_option maxHeartbeats 4000000 in
set_option maxRecDepth 100000 in
theorem mX6_says : xMet WX yX6_says cX6_says 4 (some .int) 5 pX6_says fX6_says := by
  refine xMet_of (fld := xlk fldX6) (cal := xlk calX6_says) (ks := xlk []) (gs := xlk []) (ro := fun _ => none) 0 (by decide) WX_nd rfl fldX6_ok xKs_nil xGs_nil (Or.inr rfl) (xcal_cons (xCk_V mX6_shelfBy 6 (by decide) (by decide) (by decide) rfl (fun as σ h _ => rX6_shelfBy as σ h) w_X6_62 ⟨by decide, by decide, by decide +kernel⟩) (xcal_cons (xCk_S mX6_isUpTo (by decide) (by decide) w_X6_110 ⟨by decide, by decide, by decide +kernel⟩) (xcal_cons (xCk_V mX6_refuse 6 (by decide) (by decide) (by decide) rfl (fun as σ h _ => rX6_refuse as σ h) w_X6_66 ⟨by decide, by decide, by decide +kernel⟩) (xcal_cons (xCk_V mX3_hasRow 3 (by decide) (by decide) (by decide) rfl (fun as σ h _ => rX3_hasRow as σ h) w_X6_86 ⟨by decide, by decide, by decide +kernel⟩) (xcal_cons (xCk_V mX3_hasWalker 3 (by decide) (by decide) (by decide) rfl (fun as σ h _ => rX3_hasWalker as σ h) w_X6_90 ⟨by decide, by decide, by decide +kernel⟩) (xcal_cons (xCk_V mX4_who 4 (by decide) (by decide) (by decide) rfl (fun as σ h _ => rX4_who as σ h) w_X6_114 ⟨by decide, by decide, by decide +kernel⟩) (xcal_cons (xCk_S mX0_isUnder (by decide) (by decide) w_X6_123 ⟨by decide, by decide, by decide +kernel⟩) (xcal_cons (xCk_V mX4_said 4 (by decide) (by decide) (by decide) rfl (fun as σ h _ => rX4_said as σ h) w_X6_126 ⟨by decide, by decide, by decide +kernel⟩) xcal_nil)))))))) ?_ ?_
  · rintro av σ ⟨s, k, rfl, hpre⟩
    exact Nat.le_of_ble_eq_true rfl
  rintro av σ ⟨s, k, rfl, ⟨hp1, hp2⟩⟩ Rt hR
  have hR2 : ∀ v' t', Rt (some (.int v')) t' = ((v', t') = saysX σ s k) := fun v' t' => by
    rw [hR, fX6_says_e]
    exact propext ⟨fun h => Prod.ext (by simpa using h.1) h.2, fun h => ⟨by rw [← h], by rw [← h]⟩⟩
  by_cases h : 0 ≤ s ∧ s < 8
  · have hSs : xSh (10 + tn s) := sh8 h
    refine xgo0 50 ?_
    simp (config := {maxSteps := 4000000, implicitDefEqProofs := false}) only [xwp_2, xwp_0, xwp_1, xws_s, xdd_o, xld_0, xld_s, xs1_0, xs1_1, xs1_s, xs2_0, xs2_1, xs2_s, xlg_n, xlg_i, xlg_r, xlg_z, xlg_l, xf4_0, xf4_1, xf4_2, xf4_3, xgo_e, xcmp_eq, xcmp_ne, xcmp_lt, xcmp_ge, xcmp_gt, xcmp_le, xfg_0, xfg_1, xfg_2, xfg_3, xfg_4, xpop_0, xpop_s, xsw_n, xsw_c, xtb_n, xtb_c, xenp_n, xenp_i, xenp_r, xenp_z, xenp_l, xrep_0, xrep_s, Nat.reduceSub, true_and, and_true, cat_i, cat_r, Nat.reduceAdd, Nat.reduceLT, Nat.reduceLeDiff, Nat.reduceEqDiff, xnc, Int.reduceAdd, Int.reduceSub, Int.reduceNeg, Int.reduceLE, Int.reduceLT, Int.reduceToNat, ↓reduceIte, List.length_cons, List.length_nil, xlc0, xlc1, ite_10, i10, i01, i0_2, i0_3, i0_4, i0_6, i0_7, i0_8, i0_49, i0_10, or_true, true_or, or_false, false_or, not_false_eq_true, not_true_eq_false, xnt, xI_g, eq_self, xI_2, xJ_1, false_and, and_false, obT_t, obS_t, ob6_t, ob2_t, ob0_t, kT1_t, kT2_t, kT3_t, kT4_t, lT1, lT2, rT6, rT7, rT8, rT9, rT1i, rT2i, rS2, kSe_t, lSe, r0_0, r0_1, r0_2, r0_3, r0_4, r0_5, r0_6, r0_7, r0_8, r0_9, r1_i, r2_4, r2_5, r4_4, a1_t, a3_t, a5_t, a6_t, a7_t, a8_t, l1, l3, l5, l6, l7, l8, T1, T2, T3, T4, nI8, nI6, nI160, nI20, nI401, nI49, ob5_t, ob1_t, vp_tn, tn_def, lgc, dX6_says_0, st_aload_n, dX6_says_1, st_iload_n, dX6_says_2, st_invokevirtual, dX6_says_5, st_astore_n, dX6_says_6, dX6_says_7, st_ifnull, dX6_says_10, dX6_says_11, st_bipush, dX6_says_13, st_invokestatic, dX6_says_16, st_ifCond, dX6_says_19, dX6_says_20, st_iconst, dX6_says_21, dX6_says_24, st_ireturn, dX6_says_25, dX6_says_26, dX6_says_29, dX6_says_32, dX6_says_33, dX6_says_35, dX6_says_38, dX6_says_39, dX6_says_40, dX6_says_43, dX6_says_46, dX6_says_47, dX6_says_49, dX6_says_52, dX6_says_53, dX6_says_54, st_getfield, fl_X6_18, dX6_says_57, dX6_says_58, fl_X6_93, dX6_says_61, dX6_says_64, fl_X6_118, dX6_says_67, dX6_says_68, dX6_says_71, dX6_says_74, dX6_says_75, dX6_says_77, dX6_says_80, dX6_says_81, dX6_says_82, dX6_says_85, dX6_says_86, dX6_says_89, dX6_says_90, dX6_says_93, c_X6_says_62, pX6_shelfBy_e, fX6_shelfBy_e, Option.toList_some, Option.toList_none, List.cons_append, List.nil_append, c_X6_says_110, pX6_isUpTo_e, fX6_isUpTo_e, c_X6_says_66, pX6_refuse_e, fX6_refuse_e, c_X6_says_86, pX3_hasRow_e, fX3_hasRow_e, c_X6_says_90, pX3_hasWalker_e, fX3_hasWalker_e, c_X6_says_114, pX4_who_e, fX4_who_e, c_X6_says_123, pX0_isUnder_e, fX0_isUnder_e, c_X6_says_126, pX4_said_e, fX4_said_e, ofI_6, ofI_m1, ofI_m2, ofI_m3, hp1, hp2, h, hSs]
    clear hR
    simp only [hR2, saysX, noX]
    clear hR2
    grind (splits := 40)
  · refine xgo0 50 ?_
    simp (config := {maxSteps := 4000000, implicitDefEqProofs := false}) only [xwp_2, xwp_0, xwp_1, xws_s, xdd_o, xld_0, xld_s, xs1_0, xs1_1, xs1_s, xs2_0, xs2_1, xs2_s, xlg_n, xlg_i, xlg_r, xlg_z, xlg_l, xf4_0, xf4_1, xf4_2, xf4_3, xgo_e, xcmp_eq, xcmp_ne, xcmp_lt, xcmp_ge, xcmp_gt, xcmp_le, xfg_0, xfg_1, xfg_2, xfg_3, xfg_4, xpop_0, xpop_s, xsw_n, xsw_c, xtb_n, xtb_c, xenp_n, xenp_i, xenp_r, xenp_z, xenp_l, xrep_0, xrep_s, Nat.reduceSub, true_and, and_true, cat_i, cat_r, Nat.reduceAdd, Nat.reduceLT, Nat.reduceLeDiff, Nat.reduceEqDiff, xnc, Int.reduceAdd, Int.reduceSub, Int.reduceNeg, Int.reduceLE, Int.reduceLT, Int.reduceToNat, ↓reduceIte, List.length_cons, List.length_nil, xlc0, xlc1, ite_10, i10, i01, i0_2, i0_3, i0_4, i0_6, i0_7, i0_8, i0_49, i0_10, or_true, true_or, or_false, false_or, not_false_eq_true, not_true_eq_false, xnt, xI_g, eq_self, xI_2, xJ_1, false_and, and_false, obT_t, obS_t, ob6_t, ob2_t, ob0_t, kT1_t, kT2_t, kT3_t, kT4_t, lT1, lT2, rT6, rT7, rT8, rT9, rT1i, rT2i, rS2, kSe_t, lSe, r0_0, r0_1, r0_2, r0_3, r0_4, r0_5, r0_6, r0_7, r0_8, r0_9, r1_i, r2_4, r2_5, r4_4, a1_t, a3_t, a5_t, a6_t, a7_t, a8_t, l1, l3, l5, l6, l7, l8, T1, T2, T3, T4, nI8, nI6, nI160, nI20, nI401, nI49, ob5_t, ob1_t, vp_tn, tn_def, lgc, dX6_says_0, st_aload_n, dX6_says_1, st_iload_n, dX6_says_2, st_invokevirtual, dX6_says_5, st_astore_n, dX6_says_6, dX6_says_7, st_ifnull, dX6_says_10, dX6_says_11, st_bipush, dX6_says_13, st_invokestatic, dX6_says_16, st_ifCond, dX6_says_19, dX6_says_20, st_iconst, dX6_says_21, dX6_says_24, st_ireturn, dX6_says_25, dX6_says_26, dX6_says_29, dX6_says_32, dX6_says_33, dX6_says_35, dX6_says_38, dX6_says_39, dX6_says_40, dX6_says_43, dX6_says_46, dX6_says_47, dX6_says_49, dX6_says_52, dX6_says_53, dX6_says_54, st_getfield, fl_X6_18, dX6_says_57, dX6_says_58, fl_X6_93, dX6_says_61, dX6_says_64, fl_X6_118, dX6_says_67, dX6_says_68, dX6_says_71, dX6_says_74, dX6_says_75, dX6_says_77, dX6_says_80, dX6_says_81, dX6_says_82, dX6_says_85, dX6_says_86, dX6_says_89, dX6_says_90, dX6_says_93, c_X6_says_62, pX6_shelfBy_e, fX6_shelfBy_e, Option.toList_some, Option.toList_none, List.cons_append, List.nil_append, c_X6_says_110, pX6_isUpTo_e, fX6_isUpTo_e, c_X6_says_66, pX6_refuse_e, fX6_refuse_e, c_X6_says_86, pX3_hasRow_e, fX3_hasRow_e, c_X6_says_90, pX3_hasWalker_e, fX3_hasWalker_e, c_X6_says_114, pX4_who_e, fX4_who_e, c_X6_says_123, pX0_isUnder_e, fX0_isUnder_e, c_X6_says_126, pX4_said_e, fX4_said_e, ofI_6, ofI_m1, ofI_m2, ofI_m3, hp1, hp2, h]
    clear hR
    simp only [hR2, saysX, noX]
    clear hR2
    grind (splits := 40)
theorem rX6_says : ∀ as σ, pX6_says as σ → ∃ K as', as = .ref K :: as' ∧ xob WX K 6 := by
  rintro as σ ⟨s, k, rfl, hpre⟩
  exact ⟨_, _, rfl, by first | exact hpre | exact hpre.1 | exact obT hpre | exact obT hpre.1 | exact obS hpre | exact obS hpre.1 | exact obM | exact ob6 | exact ob2 | exact ob0⟩
/-- the steps of a row's gait -/
def gsB (σ : xS) (K i : Nat) : Bool := decide (¬ (0 ≤ nmA σ K (nI i) ∧ nmA σ K (nI i) ≤ 3))
def gsT (σ : xS) (K : Nat) : Nat → Int32
  | 0 => 0
  | i + 1 => gsT σ K i ||| xshl (nmA σ K (nI i)) (2 * nI i)
def gsl (σ : xS) (K : Nat) : Nat → Option Value
  | 0 => none
  | i + 1 => some (.int (nmA σ K (nI i)))
def gaiX2 (σ : xS) (K : Nat) (n a : Int32) : Int32 × xS := if xany (gsB σ K) (tn n) = true then noX σ (-6) else if σ.1 100 1 < 8 then (σ.1 100 1, adG σ 100 n a (gsT σ K (tn n))) else noX σ (-7)
def gaitX (σ : xS) (s n a : Int32) : Int32 × xS := if 0 ≤ s ∧ s < 8 then (if wnr σ (10 + tn s) = 0 then (if n < 0 then noX σ (-4) else if σ.1 (10 + tn s) 1 < n then noX σ (-5) else if n < 1 ∨ 8 < n ∨ ¬ (0 ≤ a ∧ a ≤ 2) then noX σ (-6) else gaiX2 σ (10 + tn s) n a) else noX σ (wnr σ (10 + tn s))) else noX σ (-1)
theorem le8_tn {n : Int32} (h : n ≤ 8) : tn n ≤ 8 := xwk8 h
def pX6_gait (as : List Value) (σ : xS) : Prop := ∃ (s : Int32) (n : Int32) (a : Int32), as = [.ref 0, .int s, .int n, .int a] ∧ (0 ≤ σ.1 100 1)
def fX6_gait (as : List Value) (σ : xS) : Option Value × xS := match as with
  | [.ref 0, .int s, .int n, .int a] => (some (.int (gaitX σ s n a).1), (gaitX σ s n a).2)
  | _ => (none, σ)
theorem pX6_gait_e {s : Int32} {n : Int32} {a : Int32} {σ : xS} : pX6_gait [.ref 0, .int s, .int n, .int a] σ = (0 ≤ σ.1 100 1) := propext ⟨fun h => by obtain ⟨s, n, a, e, h⟩ := h; cases e; exact h, fun h => ⟨s, n, a, rfl, h⟩⟩
theorem fX6_gait_e {s : Int32} {n : Int32} {a : Int32} {σ : xS} : fX6_gait [.ref 0, .int s, .int n, .int a] σ = (some (.int (gaitX σ s n a).1), (gaitX σ s n a).2) := rfl
def calX6_gait : List (Nat × xCall) := [(62, (false, 2, pX6_shelfBy, fX6_shelfBy)), (74, (true, 1, pX6_whyNoRow, fX6_whyNoRow)), (66, (false, 2, pX6_refuse, fX6_refuse)), (110, (true, 2, pX6_isUpTo, fX6_isUpTo)), (133, (false, 2, pX3_numberAt, fX3_numberAt)), (136, (true, 3, pX1_withStep, fX1_withStep)), (142, (false, 1, pX4_hasRoomForGait, fX4_hasRoomForGait)), (145, (false, 4, pX4_addGait, fX4_addGait))]
theorem c_X6_gait_62 : xlk calX6_gait 62 = some (false, 2, pX6_shelfBy, fX6_shelfBy) := rfl
theorem c_X6_gait_74 : xlk calX6_gait 74 = some (true, 1, pX6_whyNoRow, fX6_whyNoRow) := rfl
theorem c_X6_gait_66 : xlk calX6_gait 66 = some (false, 2, pX6_refuse, fX6_refuse) := rfl
theorem c_X6_gait_110 : xlk calX6_gait 110 = some (true, 2, pX6_isUpTo, fX6_isUpTo) := rfl
theorem c_X6_gait_133 : xlk calX6_gait 133 = some (false, 2, pX3_numberAt, fX3_numberAt) := rfl
theorem c_X6_gait_136 : xlk calX6_gait 136 = some (true, 3, pX1_withStep, fX1_withStep) := rfl
theorem c_X6_gait_142 : xlk calX6_gait 142 = some (false, 1, pX4_hasRoomForGait, fX4_hasRoomForGait) := rfl
theorem c_X6_gait_145 : xlk calX6_gait 145 = some (false, 4, pX4_addGait, fX4_addGait) := rfl
set_option maxHeartbeats 4000000 in
set_option maxRecDepth 100000 in
theorem mX6_gait : xMet WX yX6_gait cX6_gait 9 (some .int) 5 pX6_gait fX6_gait := by
  refine xMet_of (fld := xlk fldX6) (cal := xlk calX6_gait) (ks := xlk []) (gs := xlk []) (ro := fun _ => none) 0 (by decide) WX_nd rfl fldX6_ok xKs_nil xGs_nil (Or.inr rfl) (xcal_cons (xCk_V mX6_shelfBy 6 (by decide) (by decide) (by decide) rfl (fun as σ h _ => rX6_shelfBy as σ h) w_X6_62 ⟨by decide, by decide, by decide +kernel⟩) (xcal_cons (xCk_S mX6_whyNoRow (by decide) (by decide) w_X6_74 ⟨by decide, by decide, by decide +kernel⟩) (xcal_cons (xCk_V mX6_refuse 6 (by decide) (by decide) (by decide) rfl (fun as σ h _ => rX6_refuse as σ h) w_X6_66 ⟨by decide, by decide, by decide +kernel⟩) (xcal_cons (xCk_S mX6_isUpTo (by decide) (by decide) w_X6_110 ⟨by decide, by decide, by decide +kernel⟩) (xcal_cons (xCk_V mX3_numberAt 3 (by decide) (by decide) (by decide) rfl (fun as σ h _ => rX3_numberAt as σ h) w_X6_133 ⟨by decide, by decide, by decide +kernel⟩) (xcal_cons (xCk_S mX1_withStep (by decide) (by decide) w_X6_136 ⟨by decide, by decide, by decide +kernel⟩) (xcal_cons (xCk_V mX4_hasRoomForGait 4 (by decide) (by decide) (by decide) rfl (fun as σ h _ => rX4_hasRoomForGait as σ h) w_X6_142 ⟨by decide, by decide, by decide +kernel⟩) (xcal_cons (xCk_V mX4_addGait 4 (by decide) (by decide) (by decide) rfl (fun as σ h _ => rX4_addGait as σ h) w_X6_145 ⟨by decide, by decide, by decide +kernel⟩) xcal_nil)))))))) ?_ ?_
  · rintro av σ ⟨s, n, a, rfl, hpre⟩
    exact Nat.le_of_ble_eq_true rfl
  rintro av σ ⟨s, n, a, rfl, hp1⟩ Rt hR
  have hR2 : ∀ v' t', Rt (some (.int v')) t' = ((v', t') = gaitX σ s n a) := fun v' t' => by
    rw [hR, fX6_gait_e]
    exact propext ⟨fun h => Prod.ext (by simpa using h.1) h.2, fun h => ⟨by rw [← h], by rw [← h]⟩⟩
  by_cases h : 0 ≤ s ∧ s < 8
  · have hSs : xSh (10 + tn s) := sh8 h
    have g0 : gaitX σ s n a = (if wnr σ (10 + tn s) = 0 then (if n < 0 then noX σ (-4) else if σ.1 (10 + tn s) 1 < n then noX σ (-5) else if n < 1 ∨ 8 < n ∨ ¬ (0 ≤ a ∧ a ≤ 2) then noX σ (-6) else gaiX2 σ (10 + tn s) n a) else noX σ (wnr σ (10 + tn s))) := by rw [gaitX, if_pos h]
    rw [g0] at hR2
    generalize hK : 10 + tn s = K at *
    refine xto 90 (fun L st t => (wnr σ K = 0 ∧ ¬ n < 0 ∧ ¬ σ.1 K 1 < n ∧ ¬ n < 1 ∧ ¬ 8 < n ∧ (0 ≤ a ∧ a ≤ 2)) ∧ L = [some (.ref 0), some (.int s), some (.int n), some (.int a), some (.ref K), some (.int (wnr σ K)), some (.int 0), some (.int 0), none] ∧ st = [] ∧ t = σ) 60 ?_ ?_
    · rintro L st t ⟨⟨h1, h2, h3, h4, h5, h6⟩, rfl, rfl, rfl⟩
      have h8 : tn n ≤ 8 := le8_tn (Int32.not_lt.mp h5)
      rw [if_pos h1, if_neg h2, if_neg h3, if_neg (fun q => by rcases q with q | q | q; exact h4 q; exact h5 q; exact q h6)] at hR2
      refine xfor 90 (tn n) 80 (fun i => [some (.ref 0), some (.int s), some (.int n), some (.int a), some (.ref K), some (.int (wnr t K)), some (.int (gsT t K i)), some (.int (nI i)), gsl t K i]) (fun _ => t) (fun i => ∀ j, j < i → gsB t K j = false) (fun i hi hH => ?_) 0 (Nat.zero_le _) (fun j hj => by omega)
      simp -implicitDefEqProofs only [xwp_2, xwp_0, xwp_1, xws_s, xdd_o, xld_0, xld_s, xs1_0, xs1_1, xs1_s, xs2_0, xs2_1, xs2_s, xlg_n, xlg_i, xlg_r, xlg_z, xlg_l, xf4_0, xf4_1, xf4_2, xf4_3, xgo_e, xcmp_eq, xcmp_ne, xcmp_lt, xcmp_ge, xcmp_gt, xcmp_le, xfg_0, xfg_1, xfg_2, xfg_3, xfg_4, xpop_0, xpop_s, xsw_n, xsw_c, xtb_n, xtb_c, xenp_n, xenp_i, xenp_r, xenp_z, xenp_l, xrep_0, xrep_s, Nat.reduceSub, true_and, and_true, cat_i, cat_r, Nat.reduceAdd, Nat.reduceLT, Nat.reduceLeDiff, Nat.reduceEqDiff, xnc, Int.reduceAdd, Int.reduceSub, Int.reduceNeg, Int.reduceLE, Int.reduceLT, Int.reduceToNat, ↓reduceIte, List.length_cons, List.length_nil, xlc0, xlc1, ite_10, i10, i01, i0_2, i0_3, i0_4, i0_6, i0_7, i0_8, i0_49, i0_10, or_true, true_or, or_false, false_or, not_false_eq_true, not_true_eq_false, xnt, xI_g, eq_self, xI_2, xJ_1, false_and, and_false, obT_t, obS_t, ob6_t, ob2_t, ob0_t, kT1_t, kT2_t, kT3_t, kT4_t, lT1, lT2, rT6, rT7, rT8, rT9, rT1i, rT2i, rS2, kSe_t, lSe, r0_0, r0_1, r0_2, r0_3, r0_4, r0_5, r0_6, r0_7, r0_8, r0_9, r1_i, r2_4, r2_5, r4_4, a1_t, a3_t, a5_t, a6_t, a7_t, a8_t, l1, l3, l5, l6, l7, l8, T1, T2, T3, T4, nI8, nI6, nI160, nI20, nI401, nI49, ob5_t, ob1_t, vp_tn, tn_def, lgc, dX6_gait_0, st_aload_n, dX6_gait_1, st_iload_n, dX6_gait_2, st_invokevirtual, dX6_gait_5, st_astore, dX6_gait_7, st_aload, dX6_gait_9, st_invokestatic, dX6_gait_12, st_istore, dX6_gait_14, dX6_gait_16, st_ifnull, dX6_gait_19, st_iload, dX6_gait_21, st_ifCond, dX6_gait_24, dX6_gait_25, dX6_gait_27, dX6_gait_30, st_ireturn, dX6_gait_31, dX6_gait_32, dX6_gait_35, dX6_gait_36, st_bipush, dX6_gait_38, dX6_gait_41, dX6_gait_42, dX6_gait_43, dX6_gait_45, st_getfield, fl_X6_130, dX6_gait_48, st_if_icmp, dX6_gait_51, dX6_gait_52, dX6_gait_54, dX6_gait_57, dX6_gait_58, dX6_gait_59, st_iconst, dX6_gait_60, dX6_gait_63, dX6_gait_64, dX6_gait_66, dX6_gait_69, dX6_gait_70, dX6_gait_71, dX6_gait_74, dX6_gait_77, dX6_gait_78, dX6_gait_80, dX6_gait_83, dX6_gait_84, dX6_gait_85, dX6_gait_87, dX6_gait_88, dX6_gait_90, dX6_gait_92, dX6_gait_93, dX6_gait_96, dX6_gait_98, dX6_gait_100, dX6_gait_103, dX6_gait_105, dX6_gait_107, dX6_gait_108, dX6_gait_111, dX6_gait_114, dX6_gait_115, dX6_gait_117, dX6_gait_120, dX6_gait_121, dX6_gait_123, dX6_gait_125, dX6_gait_127, dX6_gait_130, dX6_gait_132, st_iinc, dX6_gait_135, st_goto, dX6_gait_138, dX6_gait_139, fl_X6_18, dX6_gait_142, dX6_gait_145, dX6_gait_148, dX6_gait_149, dX6_gait_152, dX6_gait_153, dX6_gait_154, dX6_gait_156, dX6_gait_159, dX6_gait_162, dX6_gait_163, dX6_gait_165, dX6_gait_168, c_X6_gait_62, pX6_shelfBy_e, fX6_shelfBy_e, Option.toList_some, Option.toList_none, List.cons_append, List.nil_append, c_X6_gait_74, pwnr_r, fwnr_r, c_X6_gait_66, pX6_refuse_e, fX6_refuse_e, c_X6_gait_110, pX6_isUpTo_e, fX6_isUpTo_e, c_X6_gait_133, pX3_numberAt_e, fX3_numberAt_n, c_X6_gait_136, pX1_withStep_e, fX1_withStep_e, c_X6_gait_142, pX4_hasRoomForGait_e, fX4_hasRoomForGait_e, c_X6_gait_145, pX4_addGait_e, fX4_addGait_e, ofI_m4, ofI_m5, ofJ_1, ofI_8, ofJ_2, ofI_m6, ofI_0, ofJ_3, ofI_m7, hp1, hSs]
      have hc := le_nI_tn (i := i) (x := n) hi
      have e1 : nI i + 1 = nI (i + 1) := nI_1 i
      have e2 : gsT t K i ||| xshl (nmA t K (nI i)) (2 * nI i) = gsT t K (i + 1) := rfl
      have e3 : gsl t K (i + 1) = some (.int (nmA t K (nI i))) := rfl
      have e5 : gsB t K i = decide (¬ (0 ≤ nmA t K (nI i) ∧ nmA t K (nI i) ≤ 3)) := rfl
      have e6 : ∀ s, adG t 100 n a s = xI (xI (xI (xI t (110 + tn (t.1 100 1)) 0 n) (110 + tn (t.1 100 1)) 1 a) (110 + tn (t.1 100 1)) 2 s) 100 1 (t.1 100 1 + 1) := fun s => rfl
      have cont : gsB t K i = false → (∀ j, j < i + 1 → gsB t K j = false) := fun h2 => xall_s hH h2
      have fin : i = tn n → gaiX2 t K n a = if t.1 100 1 < 8 then (t.1 100 1, adG t 100 n a (gsT t K i)) else noX t (-7) := fun h => by
        rw [gaiX2, xany_f (by rw [← h]; exact hH), ← h]
        rfl
      have stop : i < tn n → gsB t K i = true → gaiX2 t K n a = noX t (-6) := fun h1 h2 => by
        rw [gaiX2, xany_t h1 h2]
        rfl
      simp only [hc, e1, e2, e3, ← e6, hR2, hp1]
      clear hR hR2 g0
      simp only [noX] at *
      grind
    · simp -implicitDefEqProofs only [xwp_2, xwp_0, xwp_1, xws_s, xdd_o, xld_0, xld_s, xs1_0, xs1_1, xs1_s, xs2_0, xs2_1, xs2_s, xlg_n, xlg_i, xlg_r, xlg_z, xlg_l, xf4_0, xf4_1, xf4_2, xf4_3, xgo_e, xcmp_eq, xcmp_ne, xcmp_lt, xcmp_ge, xcmp_gt, xcmp_le, xfg_0, xfg_1, xfg_2, xfg_3, xfg_4, xpop_0, xpop_s, xsw_n, xsw_c, xtb_n, xtb_c, xenp_n, xenp_i, xenp_r, xenp_z, xenp_l, xrep_0, xrep_s, Nat.reduceSub, true_and, and_true, cat_i, cat_r, Nat.reduceAdd, Nat.reduceLT, Nat.reduceLeDiff, Nat.reduceEqDiff, xnc, Int.reduceAdd, Int.reduceSub, Int.reduceNeg, Int.reduceLE, Int.reduceLT, Int.reduceToNat, ↓reduceIte, List.length_cons, List.length_nil, xlc0, xlc1, ite_10, i10, i01, i0_2, i0_3, i0_4, i0_6, i0_7, i0_8, i0_49, i0_10, or_true, true_or, or_false, false_or, not_false_eq_true, not_true_eq_false, xnt, xI_g, eq_self, xI_2, xJ_1, false_and, and_false, obT_t, obS_t, ob6_t, ob2_t, ob0_t, kT1_t, kT2_t, kT3_t, kT4_t, lT1, lT2, rT6, rT7, rT8, rT9, rT1i, rT2i, rS2, kSe_t, lSe, r0_0, r0_1, r0_2, r0_3, r0_4, r0_5, r0_6, r0_7, r0_8, r0_9, r1_i, r2_4, r2_5, r4_4, a1_t, a3_t, a5_t, a6_t, a7_t, a8_t, l1, l3, l5, l6, l7, l8, T1, T2, T3, T4, nI8, nI6, nI160, nI20, nI401, nI49, ob5_t, ob1_t, vp_tn, tn_def, lgc, dX6_gait_0, st_aload_n, dX6_gait_1, st_iload_n, dX6_gait_2, st_invokevirtual, dX6_gait_5, st_astore, dX6_gait_7, st_aload, dX6_gait_9, st_invokestatic, dX6_gait_12, st_istore, dX6_gait_14, dX6_gait_16, st_ifnull, dX6_gait_19, st_iload, dX6_gait_21, st_ifCond, dX6_gait_24, dX6_gait_25, dX6_gait_27, dX6_gait_30, st_ireturn, dX6_gait_31, dX6_gait_32, dX6_gait_35, dX6_gait_36, st_bipush, dX6_gait_38, dX6_gait_41, dX6_gait_42, dX6_gait_43, dX6_gait_45, st_getfield, fl_X6_130, dX6_gait_48, st_if_icmp, dX6_gait_51, dX6_gait_52, dX6_gait_54, dX6_gait_57, dX6_gait_58, dX6_gait_59, st_iconst, dX6_gait_60, dX6_gait_63, dX6_gait_64, dX6_gait_66, dX6_gait_69, dX6_gait_70, dX6_gait_71, dX6_gait_74, dX6_gait_77, dX6_gait_78, dX6_gait_80, dX6_gait_83, dX6_gait_84, dX6_gait_85, dX6_gait_87, dX6_gait_88, dX6_gait_90, dX6_gait_92, dX6_gait_93, dX6_gait_96, dX6_gait_98, dX6_gait_100, dX6_gait_103, dX6_gait_105, dX6_gait_107, dX6_gait_108, dX6_gait_111, dX6_gait_114, dX6_gait_115, dX6_gait_117, dX6_gait_120, dX6_gait_121, dX6_gait_123, dX6_gait_125, dX6_gait_127, dX6_gait_130, dX6_gait_132, st_iinc, dX6_gait_135, st_goto, dX6_gait_138, dX6_gait_139, fl_X6_18, dX6_gait_142, dX6_gait_145, dX6_gait_148, dX6_gait_149, dX6_gait_152, dX6_gait_153, dX6_gait_154, dX6_gait_156, dX6_gait_159, dX6_gait_162, dX6_gait_163, dX6_gait_165, dX6_gait_168, c_X6_gait_62, pX6_shelfBy_e, fX6_shelfBy_e, Option.toList_some, Option.toList_none, List.cons_append, List.nil_append, c_X6_gait_74, pwnr_r, fwnr_r, c_X6_gait_66, pX6_refuse_e, fX6_refuse_e, c_X6_gait_110, pX6_isUpTo_e, fX6_isUpTo_e, c_X6_gait_133, pX3_numberAt_e, fX3_numberAt_n, c_X6_gait_136, pX1_withStep_e, fX1_withStep_e, c_X6_gait_142, pX4_hasRoomForGait_e, fX4_hasRoomForGait_e, c_X6_gait_145, pX4_addGait_e, fX4_addGait_e, ofI_m4, ofI_m5, ofJ_1, ofI_8, ofJ_2, ofI_m6, ofI_0, ofJ_3, ofI_m7, hp1, h, hSs, hK, im1_0]
      simp only [hR2]
      clear hR hR2
      have z : nI 0 = 0 := rfl
      simp only [noX] at *
      grind
  · refine xgo0 86 ?_
    simp (config := {maxSteps := 4000000, implicitDefEqProofs := false}) only [xwp_2, xwp_0, xwp_1, xws_s, xdd_o, xld_0, xld_s, xs1_0, xs1_1, xs1_s, xs2_0, xs2_1, xs2_s, xlg_n, xlg_i, xlg_r, xlg_z, xlg_l, xf4_0, xf4_1, xf4_2, xf4_3, xgo_e, xcmp_eq, xcmp_ne, xcmp_lt, xcmp_ge, xcmp_gt, xcmp_le, xfg_0, xfg_1, xfg_2, xfg_3, xfg_4, xpop_0, xpop_s, xsw_n, xsw_c, xtb_n, xtb_c, xenp_n, xenp_i, xenp_r, xenp_z, xenp_l, xrep_0, xrep_s, Nat.reduceSub, true_and, and_true, cat_i, cat_r, Nat.reduceAdd, Nat.reduceLT, Nat.reduceLeDiff, Nat.reduceEqDiff, xnc, Int.reduceAdd, Int.reduceSub, Int.reduceNeg, Int.reduceLE, Int.reduceLT, Int.reduceToNat, ↓reduceIte, List.length_cons, List.length_nil, xlc0, xlc1, ite_10, i10, i01, i0_2, i0_3, i0_4, i0_6, i0_7, i0_8, i0_49, i0_10, or_true, true_or, or_false, false_or, not_false_eq_true, not_true_eq_false, xnt, xI_g, eq_self, xI_2, xJ_1, false_and, and_false, obT_t, obS_t, ob6_t, ob2_t, ob0_t, kT1_t, kT2_t, kT3_t, kT4_t, lT1, lT2, rT6, rT7, rT8, rT9, rT1i, rT2i, rS2, kSe_t, lSe, r0_0, r0_1, r0_2, r0_3, r0_4, r0_5, r0_6, r0_7, r0_8, r0_9, r1_i, r2_4, r2_5, r4_4, a1_t, a3_t, a5_t, a6_t, a7_t, a8_t, l1, l3, l5, l6, l7, l8, T1, T2, T3, T4, nI8, nI6, nI160, nI20, nI401, nI49, ob5_t, ob1_t, vp_tn, tn_def, lgc, dX6_gait_0, st_aload_n, dX6_gait_1, st_iload_n, dX6_gait_2, st_invokevirtual, dX6_gait_5, st_astore, dX6_gait_7, st_aload, dX6_gait_9, st_invokestatic, dX6_gait_12, st_istore, dX6_gait_14, dX6_gait_16, st_ifnull, dX6_gait_19, st_iload, dX6_gait_21, st_ifCond, dX6_gait_24, dX6_gait_25, dX6_gait_27, dX6_gait_30, st_ireturn, dX6_gait_31, dX6_gait_32, dX6_gait_35, dX6_gait_36, st_bipush, dX6_gait_38, dX6_gait_41, dX6_gait_42, dX6_gait_43, dX6_gait_45, st_getfield, fl_X6_130, dX6_gait_48, st_if_icmp, dX6_gait_51, dX6_gait_52, dX6_gait_54, dX6_gait_57, dX6_gait_58, dX6_gait_59, st_iconst, dX6_gait_60, dX6_gait_63, dX6_gait_64, dX6_gait_66, dX6_gait_69, dX6_gait_70, dX6_gait_71, dX6_gait_74, dX6_gait_77, dX6_gait_78, dX6_gait_80, dX6_gait_83, dX6_gait_84, dX6_gait_85, dX6_gait_87, dX6_gait_88, dX6_gait_90, dX6_gait_92, dX6_gait_93, dX6_gait_96, dX6_gait_98, dX6_gait_100, dX6_gait_103, dX6_gait_105, dX6_gait_107, dX6_gait_108, dX6_gait_111, dX6_gait_114, dX6_gait_115, dX6_gait_117, dX6_gait_120, dX6_gait_121, dX6_gait_123, dX6_gait_125, dX6_gait_127, dX6_gait_130, dX6_gait_132, st_iinc, dX6_gait_135, st_goto, dX6_gait_138, dX6_gait_139, fl_X6_18, dX6_gait_142, dX6_gait_145, dX6_gait_148, dX6_gait_149, dX6_gait_152, dX6_gait_153, dX6_gait_154, dX6_gait_156, dX6_gait_159, dX6_gait_162, dX6_gait_163, dX6_gait_165, dX6_gait_168, c_X6_gait_62, pX6_shelfBy_e, fX6_shelfBy_e, Option.toList_some, Option.toList_none, List.cons_append, List.nil_append, c_X6_gait_74, pwnr_r, fwnr_r, c_X6_gait_66, pX6_refuse_e, fX6_refuse_e, c_X6_gait_110, pX6_isUpTo_e, fX6_isUpTo_e, c_X6_gait_133, pX3_numberAt_e, fX3_numberAt_n, c_X6_gait_136, pX1_withStep_e, fX1_withStep_e, c_X6_gait_142, pX4_hasRoomForGait_e, fX4_hasRoomForGait_e, c_X6_gait_145, pX4_addGait_e, fX4_addGait_e, ofI_m4, ofI_m5, ofJ_1, ofI_8, ofJ_2, ofI_m6, ofI_0, ofJ_3, ofI_m7, hp1, h, im1_0, pwnr_n, fwnr_n]
    clear hR
    simp only [hR2, gaitX, noX]
    clear hR2
    grind (splits := 40)
theorem rX6_gait : ∀ as σ, pX6_gait as σ → ∃ K as', as = .ref K :: as' ∧ xob WX K 6 := by
  rintro as σ ⟨s, n, a, rfl, hpre⟩
  exact ⟨_, _, rfl, by first | exact hpre | exact hpre.1 | exact obT hpre | exact obT hpre.1 | exact obS hpre | exact obS hpre.1 | exact obM | exact ob6 | exact ob2 | exact ob0⟩
def gofX (σ : xS) (g x : Int32) : Int32 × xS := if ¬ (0 ≤ g ∧ g < σ.1 100 1) ∨ x < -2 ∨ σ.1 (gaiK 100 g) 0 ≤ x then noX σ (-15) else if x = -1 then (σ.1 (gaiK 100 g) 0, σ) else if x < 0 then (σ.1 (gaiK 100 g) 1, σ) else (xshr (σ.1 (gaiK 100 g) 2) (2 * x) &&& 3, σ)
def wlkX (σ : xS) (k p d g a : Int32) : Int32 × xS := if ¬ (0 ≤ k ∧ k ≤ 6) ∨ ¬ (0 ≤ g ∧ g < σ.1 100 1) then noX σ (-1) else if ¬ (0 ≤ p ∧ p ≤ 48) ∨ ¬ (0 ≤ d ∧ d ≤ 3) ∨ ¬ (0 ≤ a ∧ a ≤ 9) ∨ xlushr (σ.2 100 0) p &&& 1 = 1 then noX σ (-6) else if σ.1 100 2 < 6 then (σ.1 100 2, addW σ 100 (120 + tn (σ.1 100 2)) k p d g a) else noX σ (-7)
def wkoX (σ : xS) (x y : Int32) : Int32 × xS := if ¬ (0 ≤ x ∧ x < σ.1 100 2) ∨ ¬ (0 ≤ y ∧ y ≤ 6) then noX σ (-5) else (tldX σ (whoK 100 x) y, σ)
/-- whether somebody stands there -/
def atX (σ : xS) (p : Int32) : Bool := xany (fun i => decide (σ.1 (100 + 20 + i) 1 = p)) (tn (σ.1 100 2))
def walX (σ : xS) (p b : Int32) : Int32 × xS := if ¬ (0 ≤ p ∧ p ≤ 48) ∨ (¬ b = 0 ∧ atX σ p = true) then noX σ (-6) else if (if xlushr (σ.2 100 0) p &&& 1 = 1 then 1 else 0) = b then (0, σ) else (1, xJ σ 100 0 (xwp_put (σ.2 100 0) p b))
def iwlX (σ : xS) (p : Int32) : Int32 × xS := if ¬ (0 ≤ p ∧ p ≤ 48) then noX σ (-5) else ((if xlushr (σ.2 100 0) p &&& 1 = 1 then 1 else 0), σ)
def pX6_gaitOf (as : List Value) (σ : xS) : Prop := ∃ (g : Int32) (x : Int32), as = [.ref 0, .int g, .int x] ∧ (True)
def fX6_gaitOf (as : List Value) (σ : xS) : Option Value × xS := match as with
  | [.ref 0, .int g, .int x] => (some (.int (gofX σ g x).1), (gofX σ g x).2)
  | _ => (none, σ)
theorem pX6_gaitOf_e {g : Int32} {x : Int32} {σ : xS} : pX6_gaitOf [.ref 0, .int g, .int x] σ = (True) := propext ⟨fun h => by obtain ⟨g, x, e, h⟩ := h; cases e; exact h, fun h => ⟨g, x, rfl, h⟩⟩
theorem fX6_gaitOf_e {g : Int32} {x : Int32} {σ : xS} : fX6_gaitOf [.ref 0, .int g, .int x] σ = (some (.int (gofX σ g x).1), (gofX σ g x).2) := rfl
def calX6_gaitOf : List (Nat × xCall) := [(148, (false, 2, pX4_gaitBy, fX4_gaitBy)), (152, (false, 2, pX4_hasGait, fX4_hasGait)), (66, (false, 2, pX6_refuse, fX6_refuse)), (161, (false, 2, pX1_stepAt, fX1_stepAt))]
theorem c_X6_gaitOf_148 : xlk calX6_gaitOf 148 = some (false, 2, pX4_gaitBy, fX4_gaitBy) := rfl
theorem c_X6_gaitOf_152 : xlk calX6_gaitOf 152 = some (false, 2, pX4_hasGait, fX4_hasGait) := rfl
theorem c_X6_gaitOf_66 : xlk calX6_gaitOf 66 = some (false, 2, pX6_refuse, fX6_refuse) := rfl
theorem c_X6_gaitOf_161 : xlk calX6_gaitOf 161 = some (false, 2, pX1_stepAt, fX1_stepAt) := rfl
set_option maxHeartbeats 4000000 in
set_option maxRecDepth 100000 in
theorem mX6_gaitOf : xMet WX yX6_gaitOf cX6_gaitOf 4 (some .int) 2 pX6_gaitOf fX6_gaitOf := by
  refine xMet_of (fld := xlk fldX6) (cal := xlk calX6_gaitOf) (ks := xlk []) (gs := xlk []) (ro := fun _ => none) 0 (by decide) WX_nd rfl fldX6_ok xKs_nil xGs_nil (Or.inr rfl) (xcal_cons (xCk_V mX4_gaitBy 4 (by decide) (by decide) (by decide) rfl (fun as σ h _ => rX4_gaitBy as σ h) w_X6_148 ⟨by decide, by decide, by decide +kernel⟩) (xcal_cons (xCk_V mX4_hasGait 4 (by decide) (by decide) (by decide) rfl (fun as σ h _ => rX4_hasGait as σ h) w_X6_152 ⟨by decide, by decide, by decide +kernel⟩) (xcal_cons (xCk_V mX6_refuse 6 (by decide) (by decide) (by decide) rfl (fun as σ h _ => rX6_refuse as σ h) w_X6_66 ⟨by decide, by decide, by decide +kernel⟩) (xcal_cons (xCk_V mX1_stepAt 1 (by decide) (by decide) (by decide) rfl (fun as σ h _ => rX1_stepAt as σ h) w_X6_161 ⟨by decide, by decide, by decide +kernel⟩) xcal_nil)))) ?_ ?_
  · rintro av σ ⟨g, x, rfl, hpre⟩
    exact Nat.le_of_ble_eq_true rfl
  rintro av σ ⟨g, x, rfl, hp1⟩ Rt hR
  have hR2 : ∀ v' t', Rt (some (.int v')) t' = ((v', t') = gofX σ g x) := fun v' t' => by
    rw [hR, fX6_gaitOf_e]
    exact propext ⟨fun h => Prod.ext (by simpa using h.1) h.2, fun h => ⟨by rw [← h], by rw [← h]⟩⟩
  refine xgo0 38 ?_
  simp (config := {maxSteps := 4000000, implicitDefEqProofs := false}) only [xwp_2, xwp_0, xwp_1, xws_s, xdd_o, xld_0, xld_s, xs1_0, xs1_1, xs1_s, xs2_0, xs2_1, xs2_s, xlg_n, xlg_i, xlg_r, xlg_z, xlg_l, xf4_0, xf4_1, xf4_2, xf4_3, xgo_e, xcmp_eq, xcmp_ne, xcmp_lt, xcmp_ge, xcmp_gt, xcmp_le, xfg_0, xfg_1, xfg_2, xfg_3, xfg_4, xpop_0, xpop_s, xsw_n, xsw_c, xtb_n, xtb_c, xenp_n, xenp_i, xenp_r, xenp_z, xenp_l, xrep_0, xrep_s, Nat.reduceSub, true_and, and_true, cat_i, cat_r, Nat.reduceAdd, Nat.reduceLT, Nat.reduceLeDiff, Nat.reduceEqDiff, xnc, Int.reduceAdd, Int.reduceSub, Int.reduceNeg, Int.reduceLE, Int.reduceLT, Int.reduceToNat, ↓reduceIte, List.length_cons, List.length_nil, xlc0, xlc1, ite_10, i10, i01, i0_2, i0_3, i0_4, i0_6, i0_7, i0_8, i0_49, i0_10, or_true, true_or, or_false, false_or, not_false_eq_true, not_true_eq_false, xnt, xI_g, eq_self, xI_2, xJ_1, false_and, and_false, obT_t, obS_t, ob6_t, ob2_t, ob0_t, kT1_t, kT2_t, kT3_t, kT4_t, lT1, lT2, rT6, rT7, rT8, rT9, rT1i, rT2i, rS2, kSe_t, lSe, r0_0, r0_1, r0_2, r0_3, r0_4, r0_5, r0_6, r0_7, r0_8, r0_9, r1_i, r2_4, r2_5, r4_4, a1_t, a3_t, a5_t, a6_t, a7_t, a8_t, l1, l3, l5, l6, l7, l8, T1, T2, T3, T4, nI8, nI6, nI160, nI20, nI401, nI49, ob5_t, ob1_t, vp_tn, tn_def, lgc, dX6_gaitOf_0, st_aload_n, dX6_gaitOf_1, st_getfield, fl_X6_18, dX6_gaitOf_4, st_iload_n, dX6_gaitOf_5, st_invokevirtual, dX6_gaitOf_8, st_astore_n, dX6_gaitOf_9, dX6_gaitOf_10, dX6_gaitOf_13, dX6_gaitOf_14, dX6_gaitOf_17, st_ifCond, dX6_gaitOf_20, dX6_gaitOf_21, st_bipush, dX6_gaitOf_23, st_if_icmp, dX6_gaitOf_26, dX6_gaitOf_27, dX6_gaitOf_28, fl_X6_155, dX6_gaitOf_31, dX6_gaitOf_34, dX6_gaitOf_35, dX6_gaitOf_37, dX6_gaitOf_40, st_ireturn, dX6_gaitOf_41, dX6_gaitOf_42, st_iconst, dX6_gaitOf_43, dX6_gaitOf_46, dX6_gaitOf_47, dX6_gaitOf_50, dX6_gaitOf_51, dX6_gaitOf_52, dX6_gaitOf_55, dX6_gaitOf_56, fl_X6_158, dX6_gaitOf_59, st_goto, dX6_gaitOf_62, dX6_gaitOf_63, dX6_gaitOf_64, dX6_gaitOf_67, c_X6_gaitOf_148, pX4_gaitBy_e, fX4_gaitBy_e, Option.toList_some, Option.toList_none, List.cons_append, List.nil_append, c_X6_gaitOf_152, pX4_hasGait_e, fX4_hasGait_e, c_X6_gaitOf_66, pX6_refuse_e, fX6_refuse_e, c_X6_gaitOf_161, pX1_stepAt_e, fX1_stepAt_e, ofI_m2, ofI_m15, ofI_m1, hp1]
  clear hR
  simp only [hR2, gofX, noX]
  clear hR2
  grind (splits := 40)
theorem rX6_gaitOf : ∀ as σ, pX6_gaitOf as σ → ∃ K as', as = .ref K :: as' ∧ xob WX K 6 := by
  rintro as σ ⟨g, x, rfl, hpre⟩
  exact ⟨_, _, rfl, by first | exact hpre | exact hpre.1 | exact obT hpre | exact obT hpre.1 | exact obS hpre | exact obS hpre.1 | exact obM | exact ob6 | exact ob2 | exact ob0⟩
def pX6_walker (as : List Value) (σ : xS) : Prop := ∃ (k : Int32) (p : Int32) (d : Int32) (g : Int32) (a : Int32), as = [.ref 0, .int k, .int p, .int d, .int g, .int a] ∧ (0 ≤ σ.1 100 2)
def fX6_walker (as : List Value) (σ : xS) : Option Value × xS := match as with
  | [.ref 0, .int k, .int p, .int d, .int g, .int a] => (some (.int (wlkX σ k p d g a).1), (wlkX σ k p d g a).2)
  | _ => (none, σ)
theorem pX6_walker_e {k : Int32} {p : Int32} {d : Int32} {g : Int32} {a : Int32} {σ : xS} : pX6_walker [.ref 0, .int k, .int p, .int d, .int g, .int a] σ = (0 ≤ σ.1 100 2) := propext ⟨fun h => by obtain ⟨k, p, d, g, a, e, h⟩ := h; cases e; exact h, fun h => ⟨k, p, d, g, a, rfl, h⟩⟩
theorem fX6_walker_e {k : Int32} {p : Int32} {d : Int32} {g : Int32} {a : Int32} {σ : xS} : fX6_walker [.ref 0, .int k, .int p, .int d, .int g, .int a] σ = (some (.int (wlkX σ k p d g a).1), (wlkX σ k p d g a).2) := rfl
def calX6_walker : List (Nat × xCall) := [(110, (true, 2, pX6_isUpTo, fX6_isUpTo)), (152, (false, 2, pX4_hasGait, fX4_hasGait)), (66, (false, 2, pX6_refuse, fX6_refuse)), (164, (false, 2, pX4_isWalled, fX4_isWalled)), (167, (false, 1, pX4_hasRoomForWalker, fX4_hasRoomForWalker)), (170, (false, 6, pX4_addWalker, fX4_addWalker))]
theorem c_X6_walker_110 : xlk calX6_walker 110 = some (true, 2, pX6_isUpTo, fX6_isUpTo) := rfl
theorem c_X6_walker_152 : xlk calX6_walker 152 = some (false, 2, pX4_hasGait, fX4_hasGait) := rfl
theorem c_X6_walker_66 : xlk calX6_walker 66 = some (false, 2, pX6_refuse, fX6_refuse) := rfl
theorem c_X6_walker_164 : xlk calX6_walker 164 = some (false, 2, pX4_isWalled, fX4_isWalled) := rfl
theorem c_X6_walker_167 : xlk calX6_walker 167 = some (false, 1, pX4_hasRoomForWalker, fX4_hasRoomForWalker) := rfl
theorem c_X6_walker_170 : xlk calX6_walker 170 = some (false, 6, pX4_addWalker, fX4_addWalker) := rfl
set_option maxHeartbeats 4000000 in
set_option maxRecDepth 100000 in
theorem mX6_walker : xMet WX yX6_walker cX6_walker 6 (some .int) 3 pX6_walker fX6_walker := by
  refine xMet_of (fld := xlk fldX6) (cal := xlk calX6_walker) (ks := xlk []) (gs := xlk []) (ro := fun _ => none) 0 (by decide) WX_nd rfl fldX6_ok xKs_nil xGs_nil (Or.inr rfl) (xcal_cons (xCk_S mX6_isUpTo (by decide) (by decide) w_X6_110 ⟨by decide, by decide, by decide +kernel⟩) (xcal_cons (xCk_V mX4_hasGait 4 (by decide) (by decide) (by decide) rfl (fun as σ h _ => rX4_hasGait as σ h) w_X6_152 ⟨by decide, by decide, by decide +kernel⟩) (xcal_cons (xCk_V mX6_refuse 6 (by decide) (by decide) (by decide) rfl (fun as σ h _ => rX6_refuse as σ h) w_X6_66 ⟨by decide, by decide, by decide +kernel⟩) (xcal_cons (xCk_V mX4_isWalled 4 (by decide) (by decide) (by decide) rfl (fun as σ h _ => rX4_isWalled as σ h) w_X6_164 ⟨by decide, by decide, by decide +kernel⟩) (xcal_cons (xCk_V mX4_hasRoomForWalker 4 (by decide) (by decide) (by decide) rfl (fun as σ h _ => rX4_hasRoomForWalker as σ h) w_X6_167 ⟨by decide, by decide, by decide +kernel⟩) (xcal_cons (xCk_V mX4_addWalker 4 (by decide) (by decide) (by decide) rfl (fun as σ h _ => rX4_addWalker as σ h) w_X6_170 ⟨by decide, by decide, by decide +kernel⟩) xcal_nil)))))) ?_ ?_
  · rintro av σ ⟨k, p, d, g, a, rfl, hpre⟩
    exact Nat.le_of_ble_eq_true rfl
  rintro av σ ⟨k, p, d, g, a, rfl, hp1⟩ Rt hR
  have hR2 : ∀ v' t', Rt (some (.int v')) t' = ((v', t') = wlkX σ k p d g a) := fun v' t' => by
    rw [hR, fX6_walker_e]
    exact propext ⟨fun h => Prod.ext (by simpa using h.1) h.2, fun h => ⟨by rw [← h], by rw [← h]⟩⟩
  refine xgo0 53 ?_
  simp (config := {maxSteps := 4000000, implicitDefEqProofs := false}) only [xwp_2, xwp_0, xwp_1, xws_s, xdd_o, xld_0, xld_s, xs1_0, xs1_1, xs1_s, xs2_0, xs2_1, xs2_s, xlg_n, xlg_i, xlg_r, xlg_z, xlg_l, xf4_0, xf4_1, xf4_2, xf4_3, xgo_e, xcmp_eq, xcmp_ne, xcmp_lt, xcmp_ge, xcmp_gt, xcmp_le, xfg_0, xfg_1, xfg_2, xfg_3, xfg_4, xpop_0, xpop_s, xsw_n, xsw_c, xtb_n, xtb_c, xenp_n, xenp_i, xenp_r, xenp_z, xenp_l, xrep_0, xrep_s, Nat.reduceSub, true_and, and_true, cat_i, cat_r, Nat.reduceAdd, Nat.reduceLT, Nat.reduceLeDiff, Nat.reduceEqDiff, xnc, Int.reduceAdd, Int.reduceSub, Int.reduceNeg, Int.reduceLE, Int.reduceLT, Int.reduceToNat, ↓reduceIte, List.length_cons, List.length_nil, xlc0, xlc1, ite_10, i10, i01, i0_2, i0_3, i0_4, i0_6, i0_7, i0_8, i0_49, i0_10, or_true, true_or, or_false, false_or, not_false_eq_true, not_true_eq_false, xnt, xI_g, eq_self, xI_2, xJ_1, false_and, and_false, obT_t, obS_t, ob6_t, ob2_t, ob0_t, kT1_t, kT2_t, kT3_t, kT4_t, lT1, lT2, rT6, rT7, rT8, rT9, rT1i, rT2i, rS2, kSe_t, lSe, r0_0, r0_1, r0_2, r0_3, r0_4, r0_5, r0_6, r0_7, r0_8, r0_9, r1_i, r2_4, r2_5, r4_4, a1_t, a3_t, a5_t, a6_t, a7_t, a8_t, l1, l3, l5, l6, l7, l8, T1, T2, T3, T4, nI8, nI6, nI160, nI20, nI401, nI49, ob5_t, ob1_t, vp_tn, tn_def, lgc, dX6_walker_0, st_iload_n, dX6_walker_1, st_bipush, dX6_walker_3, st_invokestatic, dX6_walker_6, st_ifCond, dX6_walker_9, st_aload_n, dX6_walker_10, st_getfield, fl_X6_18, dX6_walker_13, st_iload, dX6_walker_15, st_invokevirtual, dX6_walker_18, dX6_walker_21, dX6_walker_22, st_iconst, dX6_walker_23, dX6_walker_26, st_ireturn, dX6_walker_27, dX6_walker_28, dX6_walker_30, dX6_walker_33, dX6_walker_36, dX6_walker_37, dX6_walker_38, dX6_walker_41, dX6_walker_44, dX6_walker_46, dX6_walker_48, dX6_walker_51, dX6_walker_54, dX6_walker_55, dX6_walker_58, dX6_walker_59, dX6_walker_62, dX6_walker_65, dX6_walker_66, dX6_walker_68, dX6_walker_71, dX6_walker_72, dX6_walker_73, dX6_walker_76, dX6_walker_79, dX6_walker_82, dX6_walker_83, dX6_walker_86, dX6_walker_87, dX6_walker_88, dX6_walker_89, dX6_walker_91, dX6_walker_93, dX6_walker_96, st_goto, dX6_walker_99, dX6_walker_100, dX6_walker_102, dX6_walker_105, c_X6_walker_110, pX6_isUpTo_e, fX6_isUpTo_e, Option.toList_some, Option.toList_none, List.cons_append, List.nil_append, c_X6_walker_152, pX4_hasGait_e, fX4_hasGait_e, c_X6_walker_66, pX6_refuse_e, fX6_refuse_e, c_X6_walker_164, pX4_isWalled_e, fX4_isWalled_e, c_X6_walker_167, pX4_hasRoomForWalker_e, fX4_hasRoomForWalker_e, c_X6_walker_170, pX4_addWalker_e, fX4_addWalker_e, ofI_6, ofI_m1, ofI_48, ofJ_3, ofI_9, ofI_m6, ofI_m7, hp1]
  clear hR
  simp only [hR2, wlkX, noX]
  clear hR2
  grind (splits := 40)
theorem rX6_walker : ∀ as σ, pX6_walker as σ → ∃ K as', as = .ref K :: as' ∧ xob WX K 6 := by
  rintro as σ ⟨k, p, d, g, a, rfl, hpre⟩
  exact ⟨_, _, rfl, by first | exact hpre | exact hpre.1 | exact obT hpre | exact obT hpre.1 | exact obS hpre | exact obS hpre.1 | exact obM | exact ob6 | exact ob2 | exact ob0⟩
def pX6_walkerOf (as : List Value) (σ : xS) : Prop := ∃ (x : Int32) (y : Int32), as = [.ref 0, .int x, .int y] ∧ (True)
def fX6_walkerOf (as : List Value) (σ : xS) : Option Value × xS := match as with
  | [.ref 0, .int x, .int y] => (some (.int (wkoX σ x y).1), (wkoX σ x y).2)
  | _ => (none, σ)
theorem pX6_walkerOf_e {x : Int32} {y : Int32} {σ : xS} : pX6_walkerOf [.ref 0, .int x, .int y] σ = (True) := propext ⟨fun h => by obtain ⟨x, y, e, h⟩ := h; cases e; exact h, fun h => ⟨x, y, rfl, h⟩⟩
theorem fX6_walkerOf_e {x : Int32} {y : Int32} {σ : xS} : fX6_walkerOf [.ref 0, .int x, .int y] σ = (some (.int (wkoX σ x y).1), (wkoX σ x y).2) := rfl
def calX6_walkerOf : List (Nat × xCall) := [(104, (false, 2, pX4_hasWalker, fX4_hasWalker)), (110, (true, 2, pX6_isUpTo, fX6_isUpTo)), (66, (false, 2, pX6_refuse, fX6_refuse)), (114, (false, 2, pX4_who, fX4_who)), (174, (false, 2, pX5_told, fX5_told))]
theorem c_X6_walkerOf_104 : xlk calX6_walkerOf 104 = some (false, 2, pX4_hasWalker, fX4_hasWalker) := rfl
theorem c_X6_walkerOf_110 : xlk calX6_walkerOf 110 = some (true, 2, pX6_isUpTo, fX6_isUpTo) := rfl
theorem c_X6_walkerOf_66 : xlk calX6_walkerOf 66 = some (false, 2, pX6_refuse, fX6_refuse) := rfl
theorem c_X6_walkerOf_114 : xlk calX6_walkerOf 114 = some (false, 2, pX4_who, fX4_who) := rfl
theorem c_X6_walkerOf_174 : xlk calX6_walkerOf 174 = some (false, 2, pX5_told, fX5_told) := rfl
set_option maxHeartbeats 4000000 in
set_option maxRecDepth 100000 in
theorem mX6_walkerOf : xMet WX yX6_walkerOf cX6_walkerOf 3 (some .int) 2 pX6_walkerOf fX6_walkerOf := by
  refine xMet_of (fld := xlk fldX6) (cal := xlk calX6_walkerOf) (ks := xlk []) (gs := xlk []) (ro := fun _ => none) 0 (by decide) WX_nd rfl fldX6_ok xKs_nil xGs_nil (Or.inr rfl) (xcal_cons (xCk_V mX4_hasWalker 4 (by decide) (by decide) (by decide) rfl (fun as σ h _ => rX4_hasWalker as σ h) w_X6_104 ⟨by decide, by decide, by decide +kernel⟩) (xcal_cons (xCk_S mX6_isUpTo (by decide) (by decide) w_X6_110 ⟨by decide, by decide, by decide +kernel⟩) (xcal_cons (xCk_V mX6_refuse 6 (by decide) (by decide) (by decide) rfl (fun as σ h _ => rX6_refuse as σ h) w_X6_66 ⟨by decide, by decide, by decide +kernel⟩) (xcal_cons (xCk_V mX4_who 4 (by decide) (by decide) (by decide) rfl (fun as σ h _ => rX4_who as σ h) w_X6_114 ⟨by decide, by decide, by decide +kernel⟩) (xcal_cons (xCk_V mX5_told 5 (by decide) (by decide) (by decide) rfl (fun as σ h _ => rX5_told as σ h) w_X6_174 ⟨by decide, by decide, by decide +kernel⟩) xcal_nil))))) ?_ ?_
  · rintro av σ ⟨x, y, rfl, hpre⟩
    exact Nat.le_of_ble_eq_true rfl
  rintro av σ ⟨x, y, rfl, hp1⟩ Rt hR
  have hR2 : ∀ v' t', Rt (some (.int v')) t' = ((v', t') = wkoX σ x y) := fun v' t' => by
    rw [hR, fX6_walkerOf_e]
    exact propext ⟨fun h => Prod.ext (by simpa using h.1) h.2, fun h => ⟨by rw [← h], by rw [← h]⟩⟩
  refine xgo0 22 ?_
  simp (config := {maxSteps := 4000000, implicitDefEqProofs := false}) only [xwp_2, xwp_0, xwp_1, xws_s, xdd_o, xld_0, xld_s, xs1_0, xs1_1, xs1_s, xs2_0, xs2_1, xs2_s, xlg_n, xlg_i, xlg_r, xlg_z, xlg_l, xf4_0, xf4_1, xf4_2, xf4_3, xgo_e, xcmp_eq, xcmp_ne, xcmp_lt, xcmp_ge, xcmp_gt, xcmp_le, xfg_0, xfg_1, xfg_2, xfg_3, xfg_4, xpop_0, xpop_s, xsw_n, xsw_c, xtb_n, xtb_c, xenp_n, xenp_i, xenp_r, xenp_z, xenp_l, xrep_0, xrep_s, Nat.reduceSub, true_and, and_true, cat_i, cat_r, Nat.reduceAdd, Nat.reduceLT, Nat.reduceLeDiff, Nat.reduceEqDiff, xnc, Int.reduceAdd, Int.reduceSub, Int.reduceNeg, Int.reduceLE, Int.reduceLT, Int.reduceToNat, ↓reduceIte, List.length_cons, List.length_nil, xlc0, xlc1, ite_10, i10, i01, i0_2, i0_3, i0_4, i0_6, i0_7, i0_8, i0_49, i0_10, or_true, true_or, or_false, false_or, not_false_eq_true, not_true_eq_false, xnt, xI_g, eq_self, xI_2, xJ_1, false_and, and_false, obT_t, obS_t, ob6_t, ob2_t, ob0_t, kT1_t, kT2_t, kT3_t, kT4_t, lT1, lT2, rT6, rT7, rT8, rT9, rT1i, rT2i, rS2, kSe_t, lSe, r0_0, r0_1, r0_2, r0_3, r0_4, r0_5, r0_6, r0_7, r0_8, r0_9, r1_i, r2_4, r2_5, r4_4, a1_t, a3_t, a5_t, a6_t, a7_t, a8_t, l1, l3, l5, l6, l7, l8, T1, T2, T3, T4, nI8, nI6, nI160, nI20, nI401, nI49, ob5_t, ob1_t, vp_tn, tn_def, lgc, dX6_walkerOf_0, st_aload_n, dX6_walkerOf_1, st_getfield, fl_X6_18, dX6_walkerOf_4, st_iload_n, dX6_walkerOf_5, st_invokevirtual, dX6_walkerOf_8, st_ifCond, dX6_walkerOf_11, dX6_walkerOf_12, st_bipush, dX6_walkerOf_14, st_invokestatic, dX6_walkerOf_17, dX6_walkerOf_20, dX6_walkerOf_21, dX6_walkerOf_23, dX6_walkerOf_26, st_ireturn, dX6_walkerOf_27, dX6_walkerOf_28, dX6_walkerOf_31, dX6_walkerOf_32, dX6_walkerOf_35, dX6_walkerOf_36, dX6_walkerOf_39, c_X6_walkerOf_104, pX4_hasWalker_e, fX4_hasWalker_e, Option.toList_some, Option.toList_none, List.cons_append, List.nil_append, c_X6_walkerOf_110, pX6_isUpTo_e, fX6_isUpTo_e, c_X6_walkerOf_66, pX6_refuse_e, fX6_refuse_e, c_X6_walkerOf_114, pX4_who_e, fX4_who_e, c_X6_walkerOf_174, pX5_told_e, fX5_told_n, ofI_6, ofI_m5, hp1]
  clear hR
  simp only [hR2, wkoX, noX]
  clear hR2
  grind (splits := 40)
theorem rX6_walkerOf : ∀ as σ, pX6_walkerOf as σ → ∃ K as', as = .ref K :: as' ∧ xob WX K 6 := by
  rintro as σ ⟨x, y, rfl, hpre⟩
  exact ⟨_, _, rfl, by first | exact hpre | exact hpre.1 | exact obT hpre | exact obT hpre.1 | exact obS hpre | exact obS hpre.1 | exact obM | exact ob6 | exact ob2 | exact ob0⟩
def pX6_wall (as : List Value) (σ : xS) : Prop := ∃ (p : Int32) (b : Int32), as = [.ref 0, .int p, .int b] ∧ ((0 ≤ σ.1 100 2) ∧ (σ.1 100 2 ≤ 6))
def fX6_wall (as : List Value) (σ : xS) : Option Value × xS := match as with
  | [.ref 0, .int p, .int b] => (some (.int (walX σ p b).1), (walX σ p b).2)
  | _ => (none, σ)
theorem pX6_wall_e {p : Int32} {b : Int32} {σ : xS} : pX6_wall [.ref 0, .int p, .int b] σ = ((0 ≤ σ.1 100 2) ∧ (σ.1 100 2 ≤ 6)) := propext ⟨fun h => by obtain ⟨p, b, e, h⟩ := h; cases e; exact h, fun h => ⟨p, b, rfl, h⟩⟩
theorem fX6_wall_e {p : Int32} {b : Int32} {σ : xS} : fX6_wall [.ref 0, .int p, .int b] σ = (some (.int (walX σ p b).1), (walX σ p b).2) := rfl
def calX6_wall : List (Nat × xCall) := [(110, (true, 2, pX6_isUpTo, fX6_isUpTo)), (177, (false, 2, pX4_hasSomebodyAt, fX4_hasSomebodyAt)), (66, (false, 2, pX6_refuse, fX6_refuse)), (164, (false, 2, pX4_isWalled, fX4_isWalled)), (180, (false, 3, pX4_putWall, fX4_putWall))]
theorem c_X6_wall_110 : xlk calX6_wall 110 = some (true, 2, pX6_isUpTo, fX6_isUpTo) := rfl
theorem c_X6_wall_177 : xlk calX6_wall 177 = some (false, 2, pX4_hasSomebodyAt, fX4_hasSomebodyAt) := rfl
theorem c_X6_wall_66 : xlk calX6_wall 66 = some (false, 2, pX6_refuse, fX6_refuse) := rfl
theorem c_X6_wall_164 : xlk calX6_wall 164 = some (false, 2, pX4_isWalled, fX4_isWalled) := rfl
theorem c_X6_wall_180 : xlk calX6_wall 180 = some (false, 3, pX4_putWall, fX4_putWall) := rfl
set_option maxHeartbeats 4000000 in
set_option maxRecDepth 100000 in
theorem mX6_wall : xMet WX yX6_wall cX6_wall 3 (some .int) 3 pX6_wall fX6_wall := by
  refine xMet_of (fld := xlk fldX6) (cal := xlk calX6_wall) (ks := xlk []) (gs := xlk []) (ro := fun _ => none) 0 (by decide) WX_nd rfl fldX6_ok xKs_nil xGs_nil (Or.inr rfl) (xcal_cons (xCk_S mX6_isUpTo (by decide) (by decide) w_X6_110 ⟨by decide, by decide, by decide +kernel⟩) (xcal_cons (xCk_V mX4_hasSomebodyAt 4 (by decide) (by decide) (by decide) rfl (fun as σ h _ => rX4_hasSomebodyAt as σ h) w_X6_177 ⟨by decide, by decide, by decide +kernel⟩) (xcal_cons (xCk_V mX6_refuse 6 (by decide) (by decide) (by decide) rfl (fun as σ h _ => rX6_refuse as σ h) w_X6_66 ⟨by decide, by decide, by decide +kernel⟩) (xcal_cons (xCk_V mX4_isWalled 4 (by decide) (by decide) (by decide) rfl (fun as σ h _ => rX4_isWalled as σ h) w_X6_164 ⟨by decide, by decide, by decide +kernel⟩) (xcal_cons (xCk_V mX4_putWall 4 (by decide) (by decide) (by decide) rfl (fun as σ h _ => rX4_putWall as σ h) w_X6_180 ⟨by decide, by decide, by decide +kernel⟩) xcal_nil))))) ?_ ?_
  · rintro av σ ⟨p, b, rfl, hpre⟩
    exact Nat.le_of_ble_eq_true rfl
  rintro av σ ⟨p, b, rfl, ⟨hp1, hp2⟩⟩ Rt hR
  have hR2 : ∀ v' t', Rt (some (.int v')) t' = ((v', t') = walX σ p b) := fun v' t' => by
    rw [hR, fX6_wall_e]
    exact propext ⟨fun h => Prod.ext (by simpa using h.1) h.2, fun h => ⟨by rw [← h], by rw [← h]⟩⟩
  refine xgo0 32 ?_
  simp (config := {maxSteps := 4000000, implicitDefEqProofs := false}) only [xwp_2, xwp_0, xwp_1, xws_s, xdd_o, xld_0, xld_s, xs1_0, xs1_1, xs1_s, xs2_0, xs2_1, xs2_s, xlg_n, xlg_i, xlg_r, xlg_z, xlg_l, xf4_0, xf4_1, xf4_2, xf4_3, xgo_e, xcmp_eq, xcmp_ne, xcmp_lt, xcmp_ge, xcmp_gt, xcmp_le, xfg_0, xfg_1, xfg_2, xfg_3, xfg_4, xpop_0, xpop_s, xsw_n, xsw_c, xtb_n, xtb_c, xenp_n, xenp_i, xenp_r, xenp_z, xenp_l, xrep_0, xrep_s, Nat.reduceSub, true_and, and_true, cat_i, cat_r, Nat.reduceAdd, Nat.reduceLT, Nat.reduceLeDiff, Nat.reduceEqDiff, xnc, Int.reduceAdd, Int.reduceSub, Int.reduceNeg, Int.reduceLE, Int.reduceLT, Int.reduceToNat, ↓reduceIte, List.length_cons, List.length_nil, xlc0, xlc1, ite_10, i10, i01, i0_2, i0_3, i0_4, i0_6, i0_7, i0_8, i0_49, i0_10, or_true, true_or, or_false, false_or, not_false_eq_true, not_true_eq_false, xnt, xI_g, eq_self, xI_2, xJ_1, false_and, and_false, obT_t, obS_t, ob6_t, ob2_t, ob0_t, kT1_t, kT2_t, kT3_t, kT4_t, lT1, lT2, rT6, rT7, rT8, rT9, rT1i, rT2i, rS2, kSe_t, lSe, r0_0, r0_1, r0_2, r0_3, r0_4, r0_5, r0_6, r0_7, r0_8, r0_9, r1_i, r2_4, r2_5, r4_4, a1_t, a3_t, a5_t, a6_t, a7_t, a8_t, l1, l3, l5, l6, l7, l8, T1, T2, T3, T4, nI8, nI6, nI160, nI20, nI401, nI49, ob5_t, ob1_t, vp_tn, tn_def, lgc, dX6_wall_0, st_iload_n, dX6_wall_1, st_bipush, dX6_wall_3, st_invokestatic, dX6_wall_6, st_ifCond, dX6_wall_9, dX6_wall_10, dX6_wall_13, st_aload_n, dX6_wall_14, st_getfield, fl_X6_18, dX6_wall_17, dX6_wall_18, st_invokevirtual, dX6_wall_21, dX6_wall_24, dX6_wall_25, dX6_wall_27, dX6_wall_30, st_ireturn, dX6_wall_31, dX6_wall_32, dX6_wall_35, dX6_wall_36, dX6_wall_39, dX6_wall_40, st_if_icmp, dX6_wall_43, st_iconst, dX6_wall_44, dX6_wall_45, dX6_wall_46, dX6_wall_49, dX6_wall_50, dX6_wall_51, dX6_wall_54, dX6_wall_55, c_X6_wall_110, pX6_isUpTo_e, fX6_isUpTo_e, Option.toList_some, Option.toList_none, List.cons_append, List.nil_append, c_X6_wall_177, pX4_hasSomebodyAt_e, fX4_hasSomebodyAt_e, c_X6_wall_66, pX6_refuse_e, fX6_refuse_e, c_X6_wall_164, pX4_isWalled_e, fX4_isWalled_e, c_X6_wall_180, pX4_putWall_e, fX4_putWall_e, ofI_48, ofI_m6, ofI_0, ofJ_1, hp1, hp2]
  clear hR
  simp only [hR2, walX, noX, atX]
  clear hR2
  grind (splits := 40)
theorem rX6_wall : ∀ as σ, pX6_wall as σ → ∃ K as', as = .ref K :: as' ∧ xob WX K 6 := by
  rintro as σ ⟨p, b, rfl, hpre⟩
  exact ⟨_, _, rfl, by first | exact hpre | exact hpre.1 | exact obT hpre | exact obT hpre.1 | exact obS hpre | exact obS hpre.1 | exact obM | exact ob6 | exact ob2 | exact ob0⟩
def pX6_isWall (as : List Value) (σ : xS) : Prop := ∃ (p : Int32), as = [.ref 0, .int p] ∧ (True)
def fX6_isWall (as : List Value) (σ : xS) : Option Value × xS := match as with
  | [.ref 0, .int p] => (some (.int (iwlX σ p).1), (iwlX σ p).2)
  | _ => (none, σ)
theorem pX6_isWall_e {p : Int32} {σ : xS} : pX6_isWall [.ref 0, .int p] σ = (True) := propext ⟨fun h => by obtain ⟨p, e, h⟩ := h; cases e; exact h, fun h => ⟨p, rfl, h⟩⟩
theorem fX6_isWall_e {p : Int32} {σ : xS} : fX6_isWall [.ref 0, .int p] σ = (some (.int (iwlX σ p).1), (iwlX σ p).2) := rfl
def calX6_isWall : List (Nat × xCall) := [(110, (true, 2, pX6_isUpTo, fX6_isUpTo)), (66, (false, 2, pX6_refuse, fX6_refuse)), (164, (false, 2, pX4_isWalled, fX4_isWalled))]
theorem c_X6_isWall_110 : xlk calX6_isWall 110 = some (true, 2, pX6_isUpTo, fX6_isUpTo) := rfl
theorem c_X6_isWall_66 : xlk calX6_isWall 66 = some (false, 2, pX6_refuse, fX6_refuse) := rfl
theorem c_X6_isWall_164 : xlk calX6_isWall 164 = some (false, 2, pX4_isWalled, fX4_isWalled) := rfl
set_option maxHeartbeats 4000000 in
set_option maxRecDepth 100000 in
theorem mX6_isWall : xMet WX yX6_isWall cX6_isWall 2 (some .int) 2 pX6_isWall fX6_isWall := by
  refine xMet_of (fld := xlk fldX6) (cal := xlk calX6_isWall) (ks := xlk []) (gs := xlk []) (ro := fun _ => none) 0 (by decide) WX_nd rfl fldX6_ok xKs_nil xGs_nil (Or.inr rfl) (xcal_cons (xCk_S mX6_isUpTo (by decide) (by decide) w_X6_110 ⟨by decide, by decide, by decide +kernel⟩) (xcal_cons (xCk_V mX6_refuse 6 (by decide) (by decide) (by decide) rfl (fun as σ h _ => rX6_refuse as σ h) w_X6_66 ⟨by decide, by decide, by decide +kernel⟩) (xcal_cons (xCk_V mX4_isWalled 4 (by decide) (by decide) (by decide) rfl (fun as σ h _ => rX4_isWalled as σ h) w_X6_164 ⟨by decide, by decide, by decide +kernel⟩) xcal_nil))) ?_ ?_
  · rintro av σ ⟨p, rfl, hpre⟩
    exact Nat.le_of_ble_eq_true rfl
  rintro av σ ⟨p, rfl, hp1⟩ Rt hR
  have hR2 : ∀ v' t', Rt (some (.int v')) t' = ((v', t') = iwlX σ p) := fun v' t' => by
    rw [hR, fX6_isWall_e]
    exact propext ⟨fun h => Prod.ext (by simpa using h.1) h.2, fun h => ⟨by rw [← h], by rw [← h]⟩⟩
  refine xgo0 19 ?_
  simp (config := {maxSteps := 4000000, implicitDefEqProofs := false}) only [xwp_2, xwp_0, xwp_1, xws_s, xdd_o, xld_0, xld_s, xs1_0, xs1_1, xs1_s, xs2_0, xs2_1, xs2_s, xlg_n, xlg_i, xlg_r, xlg_z, xlg_l, xf4_0, xf4_1, xf4_2, xf4_3, xgo_e, xcmp_eq, xcmp_ne, xcmp_lt, xcmp_ge, xcmp_gt, xcmp_le, xfg_0, xfg_1, xfg_2, xfg_3, xfg_4, xpop_0, xpop_s, xsw_n, xsw_c, xtb_n, xtb_c, xenp_n, xenp_i, xenp_r, xenp_z, xenp_l, xrep_0, xrep_s, Nat.reduceSub, true_and, and_true, cat_i, cat_r, Nat.reduceAdd, Nat.reduceLT, Nat.reduceLeDiff, Nat.reduceEqDiff, xnc, Int.reduceAdd, Int.reduceSub, Int.reduceNeg, Int.reduceLE, Int.reduceLT, Int.reduceToNat, ↓reduceIte, List.length_cons, List.length_nil, xlc0, xlc1, ite_10, i10, i01, i0_2, i0_3, i0_4, i0_6, i0_7, i0_8, i0_49, i0_10, or_true, true_or, or_false, false_or, not_false_eq_true, not_true_eq_false, xnt, xI_g, eq_self, xI_2, xJ_1, false_and, and_false, obT_t, obS_t, ob6_t, ob2_t, ob0_t, kT1_t, kT2_t, kT3_t, kT4_t, lT1, lT2, rT6, rT7, rT8, rT9, rT1i, rT2i, rS2, kSe_t, lSe, r0_0, r0_1, r0_2, r0_3, r0_4, r0_5, r0_6, r0_7, r0_8, r0_9, r1_i, r2_4, r2_5, r4_4, a1_t, a3_t, a5_t, a6_t, a7_t, a8_t, l1, l3, l5, l6, l7, l8, T1, T2, T3, T4, nI8, nI6, nI160, nI20, nI401, nI49, ob5_t, ob1_t, vp_tn, tn_def, lgc, dX6_isWall_0, st_iload_n, dX6_isWall_1, st_bipush, dX6_isWall_3, st_invokestatic, dX6_isWall_6, st_ifCond, dX6_isWall_9, st_aload_n, dX6_isWall_10, dX6_isWall_12, st_invokevirtual, dX6_isWall_15, st_ireturn, dX6_isWall_16, dX6_isWall_17, st_getfield, fl_X6_18, dX6_isWall_20, dX6_isWall_21, dX6_isWall_24, dX6_isWall_27, st_iconst, dX6_isWall_28, st_goto, dX6_isWall_31, dX6_isWall_32, c_X6_isWall_110, pX6_isUpTo_e, fX6_isUpTo_e, Option.toList_some, Option.toList_none, List.cons_append, List.nil_append, c_X6_isWall_66, pX6_refuse_e, fX6_refuse_e, c_X6_isWall_164, pX4_isWalled_e, fX4_isWalled_e, ofI_48, ofI_m5, ofJ_1, ofI_0, hp1]
  clear hR
  simp only [hR2, iwlX, noX]
  clear hR2
  grind (splits := 40)
theorem rX6_isWall : ∀ as σ, pX6_isWall as σ → ∃ K as', as = .ref K :: as' ∧ xob WX K 6 := by
  rintro as σ ⟨p, rfl, hpre⟩
  exact ⟨_, _, rfl, by first | exact hpre | exact hpre.1 | exact obT hpre | exact obT hpre.1 | exact obS hpre | exact obS hpre.1 | exact obM | exact ob6 | exact ob2 | exact ob0⟩
def pX6_fault (as : List Value) (σ : xS) : Prop := as = [.ref 0] ∧ (True)
def fX6_fault (as : List Value) (σ : xS) : Option Value × xS := match as with
  | [.ref 0] => (some (.int (σ.1 0 10)), σ)
  | _ => (none, σ)
theorem pX6_fault_e {σ : xS} : pX6_fault [.ref 0] σ = (True) := propext ⟨fun h => h.2, fun h => ⟨rfl, h⟩⟩
theorem fX6_fault_e  {σ : xS} : fX6_fault [.ref 0] σ = (some (.int (σ.1 0 10)), σ) := rfl
def calX6_fault : List (Nat × xCall) := []
set_option maxHeartbeats 4000000 in
set_option maxRecDepth 100000 in
theorem mX6_fault : xMet WX yX6_fault cX6_fault 1 (some .int) 1 pX6_fault fX6_fault := by
  refine xMet_of (fld := xlk fldX6) (cal := xlk calX6_fault) (ks := xlk []) (gs := xlk []) (ro := fun _ => none) 0 (by decide) WX_nd rfl fldX6_ok xKs_nil xGs_nil (Or.inr rfl) xcal_nil ?_ ?_
  · rintro av σ ⟨rfl, hpre⟩
    exact Nat.le_of_ble_eq_true rfl
  rintro av σ ⟨rfl, hp1⟩ Rt hR
  refine xgo0 5 ?_
  simp (config := {maxSteps := 2000000, implicitDefEqProofs := false}) only [xwp_2, xwp_0, xwp_1, xws_s, xdd_o, xld_0, xld_s, xs1_0, xs1_1, xs1_s, xs2_0, xs2_1, xs2_s, xlg_n, xlg_i, xlg_r, xlg_z, xlg_l, xf4_0, xf4_1, xf4_2, xf4_3, xgo_e, xcmp_eq, xcmp_ne, xcmp_lt, xcmp_ge, xcmp_gt, xcmp_le, xfg_0, xfg_1, xfg_2, xfg_3, xfg_4, xpop_0, xpop_s, xsw_n, xsw_c, xtb_n, xtb_c, xenp_n, xenp_i, xenp_r, xenp_z, xenp_l, xrep_0, xrep_s, Nat.reduceSub, true_and, and_true, cat_i, cat_r, Nat.reduceAdd, Nat.reduceLT, Nat.reduceLeDiff, Nat.reduceEqDiff, xnc, Int.reduceAdd, Int.reduceSub, Int.reduceNeg, Int.reduceLE, Int.reduceLT, Int.reduceToNat, ↓reduceIte, List.length_cons, List.length_nil, xlc0, xlc1, ite_10, i10, i01, i0_2, i0_3, i0_4, i0_6, i0_7, i0_8, i0_49, i0_10, or_true, true_or, or_false, false_or, not_false_eq_true, not_true_eq_false, xnt, xI_g, eq_self, xI_2, xJ_1, false_and, and_false, obT_t, obS_t, ob6_t, ob2_t, ob0_t, kT1_t, kT2_t, kT3_t, kT4_t, lT1, lT2, rT6, rT7, rT8, rT9, rT1i, rT2i, rS2, kSe_t, lSe, r0_0, r0_1, r0_2, r0_3, r0_4, r0_5, r0_6, r0_7, r0_8, r0_9, r1_i, r2_4, r2_5, r4_4, a1_t, a3_t, a5_t, a6_t, a7_t, a8_t, l1, l3, l5, l6, l7, l8, T1, T2, T3, T4, nI8, nI6, nI160, nI20, nI401, nI49, ob5_t, ob1_t, vp_tn, tn_def, lgc, dX6_fault_0, st_aload_n, dX6_fault_1, st_getfield, fl_X6_57, dX6_fault_4, st_ireturn, hp1]
  try simp only [hR, fX6_fault_e, Option.some.injEq, Value.int.injEq, Value.long.injEq, Value.ref.injEq, and_true, true_and]
  all_goals grind
theorem rX6_fault : ∀ as σ, pX6_fault as σ → ∃ K as', as = .ref K :: as' ∧ xob WX K 6 := by
  rintro as σ ⟨rfl, hpre⟩
  exact ⟨_, _, rfl, by first | exact hpre | exact hpre.1 | exact obT hpre | exact obT hpre.1 | exact obS hpre | exact obS hpre.1 | exact obM | exact ob6 | exact ob2 | exact ob0⟩
