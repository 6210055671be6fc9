/-! the reference: its small methods -/
def nbP (b : Int32) : Prop := 0 ≤ -b ∧ tn (-b) < 8
theorem nbP_1 : nbP (-1) = True := eq_true ⟨by decide, by decide⟩
theorem nbP_2 : nbP (-2) = True := eq_true ⟨by decide, by decide⟩
theorem nbP_3 : nbP (-3) = True := eq_true ⟨by decide, by decide⟩
theorem nbP_4 : nbP (-4) = True := eq_true ⟨by decide, by decide⟩
theorem nbP_5 : nbP (-5) = True := eq_true ⟨by decide, by decide⟩
theorem nbP_6 : nbP (-6) = True := eq_true ⟨by decide, by decide⟩
theorem nbP_7 : nbP (-7) = True := eq_true ⟨by decide, by decide⟩
def rfM (σ : xS) (b : Int32) : xS := xI σ 6 (tn (-b)) (σ.1 6 (tn (-b)) + 1)
def noM (σ : xS) (b : Int32) : Int32 × xS := (b, rfM σ b)
def ntM (σ : xS) (b : Int32) : Int32 × xS := (b - 10, rfM σ b)
def pX7_no (as : List Value) (σ : xS) : Prop := ∃ (b : Int32), as = [.ref 0, .int b] ∧ (nbP b)
def fX7_no (as : List Value) (σ : xS) : Option Value × xS := match as with
  | [.ref 0, .int b] => (some (.int b), rfM σ b)
  | _ => (none, σ)
theorem pX7_no_e {b : Int32} {σ : xS} : pX7_no [.ref 0, .int b] σ = (nbP b) := propext ⟨fun h => by obtain ⟨b, e, h⟩ := h; cases e; exact h, fun h => ⟨b, rfl, h⟩⟩
theorem fX7_no_e {b : Int32} {σ : xS} : fX7_no [.ref 0, .int b] σ = (some (.int b), rfM σ b) := rfl
def calX7_no : List (Nat × xCall) := []
set_option maxHeartbeats 4000000 in
set_option maxRecDepth 100000 in
theorem mX7_no : xMet WM yX7_no cX7_no 2 (some .int) 1 pX7_no fX7_no := by
  refine xMet_of (fld := xlk fldX7) (cal := xlk calX7_no) (ks := xlk []) (gs := xlk []) (ro := fun _ => none) 0 (by decide) WM_nd rfl fldX7_ok xKs_nil xGs_nil (Or.inr rfl) xcal_nil ?_ ?_
  · rintro av σ ⟨b, rfl, hpre⟩
    exact Nat.le_of_ble_eq_true rfl
  rintro av σ ⟨b, rfl, hp1⟩ Rt hR
  obtain ⟨q1, q2⟩ := id hp1
  refine xgo0 13 ?_
  simp -implicitDefEqProofs only [xwp_2, xwp_0, xwp_1, xws_s, xdd_o, xld_0, xld_s, xs1_0, xs1_1, xs1_s, xs2_0, xs2_1, xs2_s, xlg_n, xlg_i, xlg_r, xlg_z, xlg_l, xf4_0, xf4_1, xf4_2, xf4_3, xgo_e, xcmp_eq, xcmp_ne, xcmp_lt, xcmp_ge, xcmp_gt, xcmp_le, xfg_0, xfg_1, xfg_2, xfg_3, xfg_4, xpop_0, xpop_s, xsw_n, xsw_c, xtb_n, xtb_c, xenp_n, xenp_i, xenp_r, xenp_z, xenp_l, xrep_0, xrep_s, Nat.reduceSub, true_and, and_true, cat_i, cat_r, Nat.reduceAdd, Nat.reduceLT, Nat.reduceLeDiff, Nat.reduceEqDiff, xnc, Int.reduceAdd, Int.reduceSub, Int.reduceNeg, Int.reduceLE, Int.reduceLT, Int.reduceToNat, ↓reduceIte, List.length_cons, List.length_nil, xlc0, xlc1, ite_10, i10, i01, i0_2, i0_3, i0_4, i0_6, i0_7, i0_8, i0_49, i0_10, or_true, true_or, or_false, false_or, not_false_eq_true, not_true_eq_false, xnt, xI_g, eq_self, xI_2, xJ_1, false_and, and_false, obM_t, rMi, vp_tn, tn_def, lgc, nI8, nI6, nI160, nI20, nI401, nI49, aM_6, aM_7, aM_8, aM_9, aM_10, aM_11, aM_12, aM_13, aM_14, aM_15, aM_16, aM_17, aM_18, aM_19, aM_20, aM_21, aM_22, aM_23, aM_24, aM_25, aM_26, aM_27, aM_28, aM_29, aM_30, aM_31, aM_38, aM_39, aM_40, aM_41, aM_42, aM_43, aM_44, aM_45, aM_46, aM_47, lM_6, lM_7, lM_8, lM_9, lM_10, lM_11, lM_12, lM_13, lM_14, lM_15, lM_16, lM_17, lM_18, lM_19, lM_20, lM_21, lM_22, lM_23, lM_24, lM_25, lM_26, lM_27, lM_28, lM_29, lM_30, lM_31, lM_38, lM_39, lM_40, lM_41, lM_42, lM_43, lM_44, lM_45, lM_46, lM_47, dX7_no_0, st_aload_n, dX7_no_1, st_getfield, fl_X7_16, dX7_no_4, st_iload_n, dX7_no_5, st_ineg, dX7_no_6, st_dup2, dX7_no_7, st_iaload, dX7_no_8, st_iconst, dX7_no_9, st_iadd, dX7_no_10, st_iastore, dX7_no_11, dX7_no_12, st_ireturn, ofJ_1, hp1, q1, q2]
  simp only [hR, fX7_no_e, rfM, and_self]
theorem rX7_no : ∀ as σ, pX7_no as σ → ∃ K as', as = .ref K :: as' ∧ xob WM K 7 := by
  rintro as σ ⟨b, rfl, hpre⟩
  exact ⟨_, _, rfl, by first | exact hpre | exact hpre.1 | exact obT hpre | exact obT hpre.1 | exact obS hpre | exact obS hpre.1 | exact obM | exact ob6 | exact ob2 | exact ob0⟩
def pX7_noTen (as : List Value) (σ : xS) : Prop := ∃ (b : Int32), as = [.ref 0, .int b] ∧ (nbP b)
def fX7_noTen (as : List Value) (σ : xS) : Option Value × xS := match as with
  | [.ref 0, .int b] => (some (.int (b - 10)), rfM σ b)
  | _ => (none, σ)
theorem pX7_noTen_e {b : Int32} {σ : xS} : pX7_noTen [.ref 0, .int b] σ = (nbP b) := propext ⟨fun h => by obtain ⟨b, e, h⟩ := h; cases e; exact h, fun h => ⟨b, rfl, h⟩⟩
theorem fX7_noTen_e {b : Int32} {σ : xS} : fX7_noTen [.ref 0, .int b] σ = (some (.int (b - 10)), rfM σ b) := rfl
def calX7_noTen : List (Nat × xCall) := []
set_option maxHeartbeats 4000000 in
set_option maxRecDepth 100000 in
theorem mX7_noTen : xMet WM yX7_noTen cX7_noTen 2 (some .int) 1 pX7_noTen fX7_noTen := by
  refine xMet_of (fld := xlk fldX7) (cal := xlk calX7_noTen) (ks := xlk []) (gs := xlk []) (ro := fun _ => none) 0 (by decide) WM_nd rfl fldX7_ok xKs_nil xGs_nil (Or.inr rfl) xcal_nil ?_ ?_
  · rintro av σ ⟨b, rfl, hpre⟩
    exact Nat.le_of_ble_eq_true rfl
  rintro av σ ⟨b, rfl, hp1⟩ Rt hR
  obtain ⟨q1, q2⟩ := id hp1
  refine xgo0 15 ?_
  simp -implicitDefEqProofs only [xwp_2, xwp_0, xwp_1, xws_s, xdd_o, xld_0, xld_s, xs1_0, xs1_1, xs1_s, xs2_0, xs2_1, xs2_s, xlg_n, xlg_i, xlg_r, xlg_z, xlg_l, xf4_0, xf4_1, xf4_2, xf4_3, xgo_e, xcmp_eq, xcmp_ne, xcmp_lt, xcmp_ge, xcmp_gt, xcmp_le, xfg_0, xfg_1, xfg_2, xfg_3, xfg_4, xpop_0, xpop_s, xsw_n, xsw_c, xtb_n, xtb_c, xenp_n, xenp_i, xenp_r, xenp_z, xenp_l, xrep_0, xrep_s, Nat.reduceSub, true_and, and_true, cat_i, cat_r, Nat.reduceAdd, Nat.reduceLT, Nat.reduceLeDiff, Nat.reduceEqDiff, xnc, Int.reduceAdd, Int.reduceSub, Int.reduceNeg, Int.reduceLE, Int.reduceLT, Int.reduceToNat, ↓reduceIte, List.length_cons, List.length_nil, xlc0, xlc1, ite_10, i10, i01, i0_2, i0_3, i0_4, i0_6, i0_7, i0_8, i0_49, i0_10, or_true, true_or, or_false, false_or, not_false_eq_true, not_true_eq_false, xnt, xI_g, eq_self, xI_2, xJ_1, false_and, and_false, obM_t, rMi, vp_tn, tn_def, lgc, nI8, nI6, nI160, nI20, nI401, nI49, aM_6, aM_7, aM_8, aM_9, aM_10, aM_11, aM_12, aM_13, aM_14, aM_15, aM_16, aM_17, aM_18, aM_19, aM_20, aM_21, aM_22, aM_23, aM_24, aM_25, aM_26, aM_27, aM_28, aM_29, aM_30, aM_31, aM_38, aM_39, aM_40, aM_41, aM_42, aM_43, aM_44, aM_45, aM_46, aM_47, lM_6, lM_7, lM_8, lM_9, lM_10, lM_11, lM_12, lM_13, lM_14, lM_15, lM_16, lM_17, lM_18, lM_19, lM_20, lM_21, lM_22, lM_23, lM_24, lM_25, lM_26, lM_27, lM_28, lM_29, lM_30, lM_31, lM_38, lM_39, lM_40, lM_41, lM_42, lM_43, lM_44, lM_45, lM_46, lM_47, dX7_noTen_0, st_aload_n, dX7_noTen_1, st_getfield, fl_X7_16, dX7_noTen_4, st_iload_n, dX7_noTen_5, st_ineg, dX7_noTen_6, st_dup2, dX7_noTen_7, st_iaload, dX7_noTen_8, st_iconst, dX7_noTen_9, st_iadd, dX7_noTen_10, st_iastore, dX7_noTen_11, dX7_noTen_12, st_bipush, dX7_noTen_14, st_isub, dX7_noTen_15, st_ireturn, ofJ_1, ofI_10, hp1, q1, q2]
  simp only [hR, fX7_noTen_e, rfM, and_self]
theorem rX7_noTen : ∀ as σ, pX7_noTen as σ → ∃ K as', as = .ref K :: as' ∧ xob WM K 7 := by
  rintro as σ ⟨b, rfl, hpre⟩
  exact ⟨_, _, rfl, by first | exact hpre | exact hpre.1 | exact obT hpre | exact obT hpre.1 | exact obS hpre | exact obS hpre.1 | exact obM | exact ob6 | exact ob2 | exact ob0⟩
def pX7_isShelf (as : List Value) (σ : xS) : Prop := ∃ (x : Int32), as = [.ref 0, .int x] ∧ (True)
def fX7_isShelf (as : List Value) (σ : xS) : Option Value × xS := match as with
  | [.ref 0, .int x] => (some (.int (if 0 ≤ x ∧ x < 8 then 1 else 0)), σ)
  | _ => (none, σ)
theorem pX7_isShelf_e {x : Int32} {σ : xS} : pX7_isShelf [.ref 0, .int x] σ = (True) := propext ⟨fun h => by obtain ⟨x, e, h⟩ := h; cases e; exact h, fun h => ⟨x, rfl, h⟩⟩
theorem fX7_isShelf_e {x : Int32} {σ : xS} : fX7_isShelf [.ref 0, .int x] σ = (some (.int (if 0 ≤ x ∧ x < 8 then 1 else 0)), σ) := rfl
def calX7_isShelf : List (Nat × xCall) := []
set_option maxHeartbeats 4000000 in
set_option maxRecDepth 100000 in
theorem mX7_isShelf : xMet WM yX7_isShelf cX7_isShelf 2 (some .boolean) 1 pX7_isShelf fX7_isShelf := by
  refine xMet_of (fld := xlk fldX7) (cal := xlk calX7_isShelf) (ks := xlk []) (gs := xlk []) (ro := fun _ => none) 1 (by decide) WM_nd rfl fldX7_ok xKs_nil xGs_nil (Or.inr rfl) xcal_nil ?_ ?_
  · rintro av σ ⟨x, rfl, hpre⟩
    exact Nat.le_of_ble_eq_true rfl
  rintro av σ ⟨x, rfl, hp1⟩ Rt hR
  refine xgo0 11 ?_
  simp -implicitDefEqProofs only [xwp_2, xwp_0, xwp_1, xws_s, xdd_o, xld_0, xld_s, xs1_0, xs1_1, xs1_s, xs2_0, xs2_1, xs2_s, xlg_n, xlg_i, xlg_r, xlg_z, xlg_l, xf4_0, xf4_1, xf4_2, xf4_3, xgo_e, xcmp_eq, xcmp_ne, xcmp_lt, xcmp_ge, xcmp_gt, xcmp_le, xfg_0, xfg_1, xfg_2, xfg_3, xfg_4, xpop_0, xpop_s, xsw_n, xsw_c, xtb_n, xtb_c, xenp_n, xenp_i, xenp_r, xenp_z, xenp_l, xrep_0, xrep_s, Nat.reduceSub, true_and, and_true, cat_i, cat_r, Nat.reduceAdd, Nat.reduceLT, Nat.reduceLeDiff, Nat.reduceEqDiff, xnc, Int.reduceAdd, Int.reduceSub, Int.reduceNeg, Int.reduceLE, Int.reduceLT, Int.reduceToNat, ↓reduceIte, List.length_cons, List.length_nil, xlc0, xlc1, ite_10, i10, i01, i0_2, i0_3, i0_4, i0_6, i0_7, i0_8, i0_49, i0_10, or_true, true_or, or_false, false_or, not_false_eq_true, not_true_eq_false, xnt, xI_g, eq_self, xI_2, xJ_1, false_and, and_false, obM_t, rMi, vp_tn, tn_def, lgc, nI8, nI6, nI160, nI20, nI401, nI49, aM_6, aM_7, aM_8, aM_9, aM_10, aM_11, aM_12, aM_13, aM_14, aM_15, aM_16, aM_17, aM_18, aM_19, aM_20, aM_21, aM_22, aM_23, aM_24, aM_25, aM_26, aM_27, aM_28, aM_29, aM_30, aM_31, aM_38, aM_39, aM_40, aM_41, aM_42, aM_43, aM_44, aM_45, aM_46, aM_47, lM_6, lM_7, lM_8, lM_9, lM_10, lM_11, lM_12, lM_13, lM_14, lM_15, lM_16, lM_17, lM_18, lM_19, lM_20, lM_21, lM_22, lM_23, lM_24, lM_25, lM_26, lM_27, lM_28, lM_29, lM_30, lM_31, lM_38, lM_39, lM_40, lM_41, lM_42, lM_43, lM_44, lM_45, lM_46, lM_47, dX7_isShelf_0, st_iload_n, dX7_isShelf_1, st_ifCond, dX7_isShelf_4, dX7_isShelf_5, st_bipush, dX7_isShelf_7, st_if_icmp, dX7_isShelf_10, st_iconst, dX7_isShelf_11, st_goto, dX7_isShelf_14, dX7_isShelf_15, st_ireturn, ofI_8, ofJ_1, ofI_0, hp1]
  simp only [hR, fX7_isShelf_e]
  clear hR
  grind (splits := 40)
theorem rX7_isShelf : ∀ as σ, pX7_isShelf as σ → ∃ K as', as = .ref K :: as' ∧ xob WM K 7 := by
  rintro as σ ⟨x, rfl, hpre⟩
  exact ⟨_, _, rfl, by first | exact hpre | exact hpre.1 | exact obT hpre | exact obT hpre.1 | exact obS hpre | exact obS hpre.1 | exact obM | exact ob6 | exact ob2 | exact ob0⟩
def pX7_isWalker (as : List Value) (σ : xS) : Prop := ∃ (x : Int32), as = [.ref 0, .int x] ∧ (True)
def fX7_isWalker (as : List Value) (σ : xS) : Option Value × xS := match as with
  | [.ref 0, .int x] => (some (.int (if 0 ≤ x ∧ x < σ.1 0 1 then 1 else 0)), σ)
  | _ => (none, σ)
theorem pX7_isWalker_e {x : Int32} {σ : xS} : pX7_isWalker [.ref 0, .int x] σ = (True) := propext ⟨fun h => by obtain ⟨x, e, h⟩ := h; cases e; exact h, fun h => ⟨x, rfl, h⟩⟩
theorem fX7_isWalker_e {x : Int32} {σ : xS} : fX7_isWalker [.ref 0, .int x] σ = (some (.int (if 0 ≤ x ∧ x < σ.1 0 1 then 1 else 0)), σ) := rfl
def calX7_isWalker : List (Nat × xCall) := []
set_option maxHeartbeats 4000000 in
set_option maxRecDepth 100000 in
theorem mX7_isWalker : xMet WM yX7_isWalker cX7_isWalker 2 (some .boolean) 1 pX7_isWalker fX7_isWalker := by
  refine xMet_of (fld := xlk fldX7) (cal := xlk calX7_isWalker) (ks := xlk []) (gs := xlk []) (ro := fun _ => none) 1 (by decide) WM_nd rfl fldX7_ok xKs_nil xGs_nil (Or.inr rfl) xcal_nil ?_ ?_
  · rintro av σ ⟨x, rfl, hpre⟩
    exact Nat.le_of_ble_eq_true rfl
  rintro av σ ⟨x, rfl, hp1⟩ Rt hR
  refine xgo0 12 ?_
  simp -implicitDefEqProofs only [xwp_2, xwp_0, xwp_1, xws_s, xdd_o, xld_0, xld_s, xs1_0, xs1_1, xs1_s, xs2_0, xs2_1, xs2_s, xlg_n, xlg_i, xlg_r, xlg_z, xlg_l, xf4_0, xf4_1, xf4_2, xf4_3, xgo_e, xcmp_eq, xcmp_ne, xcmp_lt, xcmp_ge, xcmp_gt, xcmp_le, xfg_0, xfg_1, xfg_2, xfg_3, xfg_4, xpop_0, xpop_s, xsw_n, xsw_c, xtb_n, xtb_c, xenp_n, xenp_i, xenp_r, xenp_z, xenp_l, xrep_0, xrep_s, Nat.reduceSub, true_and, and_true, cat_i, cat_r, Nat.reduceAdd, Nat.reduceLT, Nat.reduceLeDiff, Nat.reduceEqDiff, xnc, Int.reduceAdd, Int.reduceSub, Int.reduceNeg, Int.reduceLE, Int.reduceLT, Int.reduceToNat, ↓reduceIte, List.length_cons, List.length_nil, xlc0, xlc1, ite_10, i10, i01, i0_2, i0_3, i0_4, i0_6, i0_7, i0_8, i0_49, i0_10, or_true, true_or, or_false, false_or, not_false_eq_true, not_true_eq_false, xnt, xI_g, eq_self, xI_2, xJ_1, false_and, and_false, obM_t, rMi, vp_tn, tn_def, lgc, nI8, nI6, nI160, nI20, nI401, nI49, aM_6, aM_7, aM_8, aM_9, aM_10, aM_11, aM_12, aM_13, aM_14, aM_15, aM_16, aM_17, aM_18, aM_19, aM_20, aM_21, aM_22, aM_23, aM_24, aM_25, aM_26, aM_27, aM_28, aM_29, aM_30, aM_31, aM_38, aM_39, aM_40, aM_41, aM_42, aM_43, aM_44, aM_45, aM_46, aM_47, lM_6, lM_7, lM_8, lM_9, lM_10, lM_11, lM_12, lM_13, lM_14, lM_15, lM_16, lM_17, lM_18, lM_19, lM_20, lM_21, lM_22, lM_23, lM_24, lM_25, lM_26, lM_27, lM_28, lM_29, lM_30, lM_31, lM_38, lM_39, lM_40, lM_41, lM_42, lM_43, lM_44, lM_45, lM_46, lM_47, dX7_isWalker_0, st_iload_n, dX7_isWalker_1, st_ifCond, dX7_isWalker_4, dX7_isWalker_5, st_aload_n, dX7_isWalker_6, st_getfield, fl_X7_126, dX7_isWalker_9, st_if_icmp, dX7_isWalker_12, st_iconst, dX7_isWalker_13, st_goto, dX7_isWalker_16, dX7_isWalker_17, st_ireturn, ofJ_1, ofI_0, hp1]
  simp only [hR, fX7_isWalker_e]
  clear hR
  grind (splits := 40)
theorem rX7_isWalker : ∀ as σ, pX7_isWalker as σ → ∃ K as', as = .ref K :: as' ∧ xob WM K 7 := by
  rintro as σ ⟨x, rfl, hpre⟩
  exact ⟨_, _, rfl, by first | exact hpre | exact hpre.1 | exact obT hpre | exact obT hpre.1 | exact obS hpre | exact obS hpre.1 | exact obM | exact ob6 | exact ob2 | exact ob0⟩
def pX7_isGait (as : List Value) (σ : xS) : Prop := ∃ (x : Int32), as = [.ref 0, .int x] ∧ (True)
def fX7_isGait (as : List Value) (σ : xS) : Option Value × xS := match as with
  | [.ref 0, .int x] => (some (.int (if 0 ≤ x ∧ x < σ.1 0 0 then 1 else 0)), σ)
  | _ => (none, σ)
theorem pX7_isGait_e {x : Int32} {σ : xS} : pX7_isGait [.ref 0, .int x] σ = (True) := propext ⟨fun h => by obtain ⟨x, e, h⟩ := h; cases e; exact h, fun h => ⟨x, rfl, h⟩⟩
theorem fX7_isGait_e {x : Int32} {σ : xS} : fX7_isGait [.ref 0, .int x] σ = (some (.int (if 0 ≤ x ∧ x < σ.1 0 0 then 1 else 0)), σ) := rfl
def calX7_isGait : List (Nat × xCall) := []
set_option maxHeartbeats 4000000 in
set_option maxRecDepth 100000 in
theorem mX7_isGait : xMet WM yX7_isGait cX7_isGait 2 (some .boolean) 1 pX7_isGait fX7_isGait := by
  refine xMet_of (fld := xlk fldX7) (cal := xlk calX7_isGait) (ks := xlk []) (gs := xlk []) (ro := fun _ => none) 1 (by decide) WM_nd rfl fldX7_ok xKs_nil xGs_nil (Or.inr rfl) xcal_nil ?_ ?_
  · rintro av σ ⟨x, rfl, hpre⟩
    exact Nat.le_of_ble_eq_true rfl
  rintro av σ ⟨x, rfl, hp1⟩ Rt hR
  refine xgo0 12 ?_
  simp -implicitDefEqProofs only [xwp_2, xwp_0, xwp_1, xws_s, xdd_o, xld_0, xld_s, xs1_0, xs1_1, xs1_s, xs2_0, xs2_1, xs2_s, xlg_n, xlg_i, xlg_r, xlg_z, xlg_l, xf4_0, xf4_1, xf4_2, xf4_3, xgo_e, xcmp_eq, xcmp_ne, xcmp_lt, xcmp_ge, xcmp_gt, xcmp_le, xfg_0, xfg_1, xfg_2, xfg_3, xfg_4, xpop_0, xpop_s, xsw_n, xsw_c, xtb_n, xtb_c, xenp_n, xenp_i, xenp_r, xenp_z, xenp_l, xrep_0, xrep_s, Nat.reduceSub, true_and, and_true, cat_i, cat_r, Nat.reduceAdd, Nat.reduceLT, Nat.reduceLeDiff, Nat.reduceEqDiff, xnc, Int.reduceAdd, Int.reduceSub, Int.reduceNeg, Int.reduceLE, Int.reduceLT, Int.reduceToNat, ↓reduceIte, List.length_cons, List.length_nil, xlc0, xlc1, ite_10, i10, i01, i0_2, i0_3, i0_4, i0_6, i0_7, i0_8, i0_49, i0_10, or_true, true_or, or_false, false_or, not_false_eq_true, not_true_eq_false, xnt, xI_g, eq_self, xI_2, xJ_1, false_and, and_false, obM_t, rMi, vp_tn, tn_def, lgc, nI8, nI6, nI160, nI20, nI401, nI49, aM_6, aM_7, aM_8, aM_9, aM_10, aM_11, aM_12, aM_13, aM_14, aM_15, aM_16, aM_17, aM_18, aM_19, aM_20, aM_21, aM_22, aM_23, aM_24, aM_25, aM_26, aM_27, aM_28, aM_29, aM_30, aM_31, aM_38, aM_39, aM_40, aM_41, aM_42, aM_43, aM_44, aM_45, aM_46, aM_47, lM_6, lM_7, lM_8, lM_9, lM_10, lM_11, lM_12, lM_13, lM_14, lM_15, lM_16, lM_17, lM_18, lM_19, lM_20, lM_21, lM_22, lM_23, lM_24, lM_25, lM_26, lM_27, lM_28, lM_29, lM_30, lM_31, lM_38, lM_39, lM_40, lM_41, lM_42, lM_43, lM_44, lM_45, lM_46, lM_47, dX7_isGait_0, st_iload_n, dX7_isGait_1, st_ifCond, dX7_isGait_4, dX7_isGait_5, st_aload_n, dX7_isGait_6, st_getfield, fl_X7_129, dX7_isGait_9, st_if_icmp, dX7_isGait_12, st_iconst, dX7_isGait_13, st_goto, dX7_isGait_16, dX7_isGait_17, st_ireturn, ofJ_1, ofI_0, hp1]
  simp only [hR, fX7_isGait_e]
  clear hR
  grind (splits := 40)
theorem rX7_isGait : ∀ as σ, pX7_isGait as σ → ∃ K as', as = .ref K :: as' ∧ xob WM K 7 := by
  rintro as σ ⟨x, rfl, hpre⟩
  exact ⟨_, _, rfl, by first | exact hpre | exact hpre.1 | exact obT hpre | exact obT hpre.1 | exact obS hpre | exact obS hpre.1 | exact obM | exact ob6 | exact ob2 | exact ob0⟩
def pX7_isPlace (as : List Value) (σ : xS) : Prop := ∃ (x : Int32), as = [.ref 0, .int x] ∧ (True)
def fX7_isPlace (as : List Value) (σ : xS) : Option Value × xS := match as with
  | [.ref 0, .int x] => (some (.int (if 0 ≤ x ∧ x < 49 then 1 else 0)), σ)
  | _ => (none, σ)
theorem pX7_isPlace_e {x : Int32} {σ : xS} : pX7_isPlace [.ref 0, .int x] σ = (True) := propext ⟨fun h => by obtain ⟨x, e, h⟩ := h; cases e; exact h, fun h => ⟨x, rfl, h⟩⟩
theorem fX7_isPlace_e {x : Int32} {σ : xS} : fX7_isPlace [.ref 0, .int x] σ = (some (.int (if 0 ≤ x ∧ x < 49 then 1 else 0)), σ) := rfl
def calX7_isPlace : List (Nat × xCall) := []
set_option maxHeartbeats 4000000 in
set_option maxRecDepth 100000 in
theorem mX7_isPlace : xMet WM yX7_isPlace cX7_isPlace 2 (some .boolean) 1 pX7_isPlace fX7_isPlace := by
  refine xMet_of (fld := xlk fldX7) (cal := xlk calX7_isPlace) (ks := xlk []) (gs := xlk []) (ro := fun _ => none) 1 (by decide) WM_nd rfl fldX7_ok xKs_nil xGs_nil (Or.inr rfl) xcal_nil ?_ ?_
  · rintro av σ ⟨x, rfl, hpre⟩
    exact Nat.le_of_ble_eq_true rfl
  rintro av σ ⟨x, rfl, hp1⟩ Rt hR
  refine xgo0 11 ?_
  simp -implicitDefEqProofs only [xwp_2, xwp_0, xwp_1, xws_s, xdd_o, xld_0, xld_s, xs1_0, xs1_1, xs1_s, xs2_0, xs2_1, xs2_s, xlg_n, xlg_i, xlg_r, xlg_z, xlg_l, xf4_0, xf4_1, xf4_2, xf4_3, xgo_e, xcmp_eq, xcmp_ne, xcmp_lt, xcmp_ge, xcmp_gt, xcmp_le, xfg_0, xfg_1, xfg_2, xfg_3, xfg_4, xpop_0, xpop_s, xsw_n, xsw_c, xtb_n, xtb_c, xenp_n, xenp_i, xenp_r, xenp_z, xenp_l, xrep_0, xrep_s, Nat.reduceSub, true_and, and_true, cat_i, cat_r, Nat.reduceAdd, Nat.reduceLT, Nat.reduceLeDiff, Nat.reduceEqDiff, xnc, Int.reduceAdd, Int.reduceSub, Int.reduceNeg, Int.reduceLE, Int.reduceLT, Int.reduceToNat, ↓reduceIte, List.length_cons, List.length_nil, xlc0, xlc1, ite_10, i10, i01, i0_2, i0_3, i0_4, i0_6, i0_7, i0_8, i0_49, i0_10, or_true, true_or, or_false, false_or, not_false_eq_true, not_true_eq_false, xnt, xI_g, eq_self, xI_2, xJ_1, false_and, and_false, obM_t, rMi, vp_tn, tn_def, lgc, nI8, nI6, nI160, nI20, nI401, nI49, aM_6, aM_7, aM_8, aM_9, aM_10, aM_11, aM_12, aM_13, aM_14, aM_15, aM_16, aM_17, aM_18, aM_19, aM_20, aM_21, aM_22, aM_23, aM_24, aM_25, aM_26, aM_27, aM_28, aM_29, aM_30, aM_31, aM_38, aM_39, aM_40, aM_41, aM_42, aM_43, aM_44, aM_45, aM_46, aM_47, lM_6, lM_7, lM_8, lM_9, lM_10, lM_11, lM_12, lM_13, lM_14, lM_15, lM_16, lM_17, lM_18, lM_19, lM_20, lM_21, lM_22, lM_23, lM_24, lM_25, lM_26, lM_27, lM_28, lM_29, lM_30, lM_31, lM_38, lM_39, lM_40, lM_41, lM_42, lM_43, lM_44, lM_45, lM_46, lM_47, dX7_isPlace_0, st_iload_n, dX7_isPlace_1, st_ifCond, dX7_isPlace_4, dX7_isPlace_5, st_bipush, dX7_isPlace_7, st_if_icmp, dX7_isPlace_10, st_iconst, dX7_isPlace_11, st_goto, dX7_isPlace_14, dX7_isPlace_15, st_ireturn, ofI_49, ofJ_1, ofI_0, hp1]
  simp only [hR, fX7_isPlace_e]
  clear hR
  grind (splits := 40)
theorem rX7_isPlace : ∀ as σ, pX7_isPlace as σ → ∃ K as', as = .ref K :: as' ∧ xob WM K 7 := by
  rintro as σ ⟨x, rfl, hpre⟩
  exact ⟨_, _, rfl, by first | exact hpre | exact hpre.1 | exact obT hpre | exact obT hpre.1 | exact obS hpre | exact obS hpre.1 | exact obM | exact ob6 | exact ob2 | exact ob0⟩
def pX7_isBeats (as : List Value) (σ : xS) : Prop := ∃ (x : Int32), as = [.ref 0, .int x] ∧ (True)
def fX7_isBeats (as : List Value) (σ : xS) : Option Value × xS := match as with
  | [.ref 0, .int x] => (some (.int (if 0 ≤ x ∧ x ≤ 400 then 1 else 0)), σ)
  | _ => (none, σ)
theorem pX7_isBeats_e {x : Int32} {σ : xS} : pX7_isBeats [.ref 0, .int x] σ = (True) := propext ⟨fun h => by obtain ⟨x, e, h⟩ := h; cases e; exact h, fun h => ⟨x, rfl, h⟩⟩
theorem fX7_isBeats_e {x : Int32} {σ : xS} : fX7_isBeats [.ref 0, .int x] σ = (some (.int (if 0 ≤ x ∧ x ≤ 400 then 1 else 0)), σ) := rfl
def calX7_isBeats : List (Nat × xCall) := []
set_option maxHeartbeats 4000000 in
set_option maxRecDepth 100000 in
theorem mX7_isBeats : xMet WM yX7_isBeats cX7_isBeats 2 (some .boolean) 1 pX7_isBeats fX7_isBeats := by
  refine xMet_of (fld := xlk fldX7) (cal := xlk calX7_isBeats) (ks := xlk []) (gs := xlk []) (ro := fun _ => none) 1 (by decide) WM_nd rfl fldX7_ok xKs_nil xGs_nil (Or.inr rfl) xcal_nil ?_ ?_
  · rintro av σ ⟨x, rfl, hpre⟩
    exact Nat.le_of_ble_eq_true rfl
  rintro av σ ⟨x, rfl, hp1⟩ Rt hR
  refine xgo0 11 ?_
  simp -implicitDefEqProofs only [xwp_2, xwp_0, xwp_1, xws_s, xdd_o, xld_0, xld_s, xs1_0, xs1_1, xs1_s, xs2_0, xs2_1, xs2_s, xlg_n, xlg_i, xlg_r, xlg_z, xlg_l, xf4_0, xf4_1, xf4_2, xf4_3, xgo_e, xcmp_eq, xcmp_ne, xcmp_lt, xcmp_ge, xcmp_gt, xcmp_le, xfg_0, xfg_1, xfg_2, xfg_3, xfg_4, xpop_0, xpop_s, xsw_n, xsw_c, xtb_n, xtb_c, xenp_n, xenp_i, xenp_r, xenp_z, xenp_l, xrep_0, xrep_s, Nat.reduceSub, true_and, and_true, cat_i, cat_r, Nat.reduceAdd, Nat.reduceLT, Nat.reduceLeDiff, Nat.reduceEqDiff, xnc, Int.reduceAdd, Int.reduceSub, Int.reduceNeg, Int.reduceLE, Int.reduceLT, Int.reduceToNat, ↓reduceIte, List.length_cons, List.length_nil, xlc0, xlc1, ite_10, i10, i01, i0_2, i0_3, i0_4, i0_6, i0_7, i0_8, i0_49, i0_10, or_true, true_or, or_false, false_or, not_false_eq_true, not_true_eq_false, xnt, xI_g, eq_self, xI_2, xJ_1, false_and, and_false, obM_t, rMi, vp_tn, tn_def, lgc, nI8, nI6, nI160, nI20, nI401, nI49, aM_6, aM_7, aM_8, aM_9, aM_10, aM_11, aM_12, aM_13, aM_14, aM_15, aM_16, aM_17, aM_18, aM_19, aM_20, aM_21, aM_22, aM_23, aM_24, aM_25, aM_26, aM_27, aM_28, aM_29, aM_30, aM_31, aM_38, aM_39, aM_40, aM_41, aM_42, aM_43, aM_44, aM_45, aM_46, aM_47, lM_6, lM_7, lM_8, lM_9, lM_10, lM_11, lM_12, lM_13, lM_14, lM_15, lM_16, lM_17, lM_18, lM_19, lM_20, lM_21, lM_22, lM_23, lM_24, lM_25, lM_26, lM_27, lM_28, lM_29, lM_30, lM_31, lM_38, lM_39, lM_40, lM_41, lM_42, lM_43, lM_44, lM_45, lM_46, lM_47, dX7_isBeats_0, st_iload_n, dX7_isBeats_1, st_ifCond, dX7_isBeats_4, dX7_isBeats_5, st_sipush, dX7_isBeats_8, st_if_icmp, dX7_isBeats_11, st_iconst, dX7_isBeats_12, st_goto, dX7_isBeats_15, dX7_isBeats_16, st_ireturn, ofI_400, ofJ_1, ofI_0, hp1]
  simp only [hR, fX7_isBeats_e]
  clear hR
  grind (splits := 40)
theorem rX7_isBeats : ∀ as σ, pX7_isBeats as σ → ∃ K as', as = .ref K :: as' ∧ xob WM K 7 := by
  rintro as σ ⟨x, rfl, hpre⟩
  exact ⟨_, _, rfl, by first | exact hpre | exact hpre.1 | exact obT hpre | exact obT hpre.1 | exact obS hpre | exact obS hpre.1 | exact obM | exact ob6 | exact ob2 | exact ob0⟩
def pX7_isTaker (as : List Value) (σ : xS) : Prop := ∃ (x : Int32), as = [.ref 0, .int x] ∧ (True)
def fX7_isTaker (as : List Value) (σ : xS) : Option Value × xS := match as with
  | [.ref 0, .int x] => (some (.int (if x = 3 ∨ x = 4 ∨ x = 6 then 1 else 0)), σ)
  | _ => (none, σ)
theorem pX7_isTaker_e {x : Int32} {σ : xS} : pX7_isTaker [.ref 0, .int x] σ = (True) := propext ⟨fun h => by obtain ⟨x, e, h⟩ := h; cases e; exact h, fun h => ⟨x, rfl, h⟩⟩
theorem fX7_isTaker_e {x : Int32} {σ : xS} : fX7_isTaker [.ref 0, .int x] σ = (some (.int (if x = 3 ∨ x = 4 ∨ x = 6 then 1 else 0)), σ) := rfl
def calX7_isTaker : List (Nat × xCall) := []
set_option maxHeartbeats 4000000 in
set_option maxRecDepth 100000 in
theorem mX7_isTaker : xMet WM yX7_isTaker cX7_isTaker 2 (some .boolean) 1 pX7_isTaker fX7_isTaker := by
  refine xMet_of (fld := xlk fldX7) (cal := xlk calX7_isTaker) (ks := xlk []) (gs := xlk []) (ro := fun _ => none) 1 (by decide) WM_nd rfl fldX7_ok xKs_nil xGs_nil (Or.inr rfl) xcal_nil ?_ ?_
  · rintro av σ ⟨x, rfl, hpre⟩
    exact Nat.le_of_ble_eq_true rfl
  rintro av σ ⟨x, rfl, hp1⟩ Rt hR
  refine xgo0 15 ?_
  simp -implicitDefEqProofs only [xwp_2, xwp_0, xwp_1, xws_s, xdd_o, xld_0, xld_s, xs1_0, xs1_1, xs1_s, xs2_0, xs2_1, xs2_s, xlg_n, xlg_i, xlg_r, xlg_z, xlg_l, xf4_0, xf4_1, xf4_2, xf4_3, xgo_e, xcmp_eq, xcmp_ne, xcmp_lt, xcmp_ge, xcmp_gt, xcmp_le, xfg_0, xfg_1, xfg_2, xfg_3, xfg_4, xpop_0, xpop_s, xsw_n, xsw_c, xtb_n, xtb_c, xenp_n, xenp_i, xenp_r, xenp_z, xenp_l, xrep_0, xrep_s, Nat.reduceSub, true_and, and_true, cat_i, cat_r, Nat.reduceAdd, Nat.reduceLT, Nat.reduceLeDiff, Nat.reduceEqDiff, xnc, Int.reduceAdd, Int.reduceSub, Int.reduceNeg, Int.reduceLE, Int.reduceLT, Int.reduceToNat, ↓reduceIte, List.length_cons, List.length_nil, xlc0, xlc1, ite_10, i10, i01, i0_2, i0_3, i0_4, i0_6, i0_7, i0_8, i0_49, i0_10, or_true, true_or, or_false, false_or, not_false_eq_true, not_true_eq_false, xnt, xI_g, eq_self, xI_2, xJ_1, false_and, and_false, obM_t, rMi, vp_tn, tn_def, lgc, nI8, nI6, nI160, nI20, nI401, nI49, aM_6, aM_7, aM_8, aM_9, aM_10, aM_11, aM_12, aM_13, aM_14, aM_15, aM_16, aM_17, aM_18, aM_19, aM_20, aM_21, aM_22, aM_23, aM_24, aM_25, aM_26, aM_27, aM_28, aM_29, aM_30, aM_31, aM_38, aM_39, aM_40, aM_41, aM_42, aM_43, aM_44, aM_45, aM_46, aM_47, lM_6, lM_7, lM_8, lM_9, lM_10, lM_11, lM_12, lM_13, lM_14, lM_15, lM_16, lM_17, lM_18, lM_19, lM_20, lM_21, lM_22, lM_23, lM_24, lM_25, lM_26, lM_27, lM_28, lM_29, lM_30, lM_31, lM_38, lM_39, lM_40, lM_41, lM_42, lM_43, lM_44, lM_45, lM_46, lM_47, dX7_isTaker_0, st_iload_n, dX7_isTaker_1, st_iconst, dX7_isTaker_2, st_if_icmp, dX7_isTaker_5, dX7_isTaker_6, dX7_isTaker_7, dX7_isTaker_10, dX7_isTaker_11, st_bipush, dX7_isTaker_13, dX7_isTaker_16, dX7_isTaker_17, st_goto, dX7_isTaker_20, dX7_isTaker_21, st_ireturn, ofJ_3, ofI_4, ofI_6, ofJ_1, ofI_0, hp1]
  simp only [hR, fX7_isTaker_e]
  clear hR
  grind (splits := 40)
theorem rX7_isTaker : ∀ as σ, pX7_isTaker as σ → ∃ K as', as = .ref K :: as' ∧ xob WM K 7 := by
  rintro as σ ⟨x, rfl, hpre⟩
  exact ⟨_, _, rfl, by first | exact hpre | exact hpre.1 | exact obT hpre | exact obT hpre.1 | exact obS hpre | exact obS hpre.1 | exact obM | exact ob6 | exact ob2 | exact ob0⟩
def wtM (σ : xS) (s : Int32) : Int32 := if ¬ (0 ≤ s ∧ s < 8) then -1 else if σ.1 23 (tn s) = 2 then -2 else if σ.1 23 (tn s) = 0 then -3 else 0
def inM (σ : xS) (s i : Int32) : Int32 := (σ.2 27 (tn (160 * s + i))).toInt32
def brM (σ : xS) (s n wd : Int32) : Int32 := if wtM σ s = 0 then (if n < 0 then -4 else if ¬ wd.toInt64 * n.toInt64 ≤ (σ.1 25 (tn s)).toInt64 then -5 else 0) else wtM σ s
theorem lgle {x y : Int64} : (lg_cmp x y ≤ 0) = (x ≤ y) := by
  apply propext
  unfold lg_cmp
  split
  · rename_i h
    constructor
    · intro q; exact absurd q (by decide)
    · intro q; exact absurd h (Int64.not_lt.mpr q)
  · rename_i h
    have h' := Int64.not_lt.mp h
    split
    · constructor
      · intro q; exact h'
      · intro q; decide
    · constructor
      · intro q; exact h'
      · intro q; decide
def pX7_wanted (as : List Value) (σ : xS) : Prop := ∃ (s : Int32), as = [.ref 0, .int s] ∧ (True)
def fX7_wanted (as : List Value) (σ : xS) : Option Value × xS := match as with
  | [.ref 0, .int s] => (some (.int (wtM σ s)), σ)
  | _ => (none, σ)
theorem pX7_wanted_e {s : Int32} {σ : xS} : pX7_wanted [.ref 0, .int s] σ = (True) := propext ⟨fun h => by obtain ⟨s, e, h⟩ := h; cases e; exact h, fun h => ⟨s, rfl, h⟩⟩
theorem fX7_wanted_e {s : Int32} {σ : xS} : fX7_wanted [.ref 0, .int s] σ = (some (.int (wtM σ s)), σ) := rfl
def calX7_wanted : List (Nat × xCall) := [(132, (false, 2, pX7_isShelf, fX7_isShelf))]
theorem c_X7_wanted_132 : xlk calX7_wanted 132 = some (false, 2, pX7_isShelf, fX7_isShelf) := rfl
set_option maxHeartbeats 4000000 in
set_option maxRecDepth 100000 in
theorem mX7_wanted : xMet WM yX7_wanted cX7_wanted 2 (some .int) 2 pX7_wanted fX7_wanted := by
  refine xMet_of (fld := xlk fldX7) (cal := xlk calX7_wanted) (ks := xlk []) (gs := xlk []) (ro := fun _ => none) 0 (by decide) WM_nd rfl fldX7_ok xKs_nil xGs_nil (Or.inr rfl) (xcal_cons (xCk_V mX7_isShelf 7 (by decide) (by decide) (by decide) rfl (fun as σ h _ => rX7_isShelf as σ h) w_X7_132 ⟨by decide, by decide, by decide +kernel⟩) xcal_nil) ?_ ?_
  · rintro av σ ⟨s, rfl, hpre⟩
    exact Nat.le_of_ble_eq_true rfl
  rintro av σ ⟨s, rfl, hp1⟩ Rt hR
  have h8 : 0 ≤ s ∧ s < 8 → tn s < 8 := tn8
  refine xgo0 25 ?_
  simp -implicitDefEqProofs only [xwp_2, xwp_0, xwp_1, xws_s, xdd_o, xld_0, xld_s, xs1_0, xs1_1, xs1_s, xs2_0, xs2_1, xs2_s, xlg_n, xlg_i, xlg_r, xlg_z, xlg_l, xf4_0, xf4_1, xf4_2, xf4_3, xgo_e, xcmp_eq, xcmp_ne, xcmp_lt, xcmp_ge, xcmp_gt, xcmp_le, xfg_0, xfg_1, xfg_2, xfg_3, xfg_4, xpop_0, xpop_s, xsw_n, xsw_c, xtb_n, xtb_c, xenp_n, xenp_i, xenp_r, xenp_z, xenp_l, xrep_0, xrep_s, Nat.reduceSub, true_and, and_true, cat_i, cat_r, Nat.reduceAdd, Nat.reduceLT, Nat.reduceLeDiff, Nat.reduceEqDiff, xnc, Int.reduceAdd, Int.reduceSub, Int.reduceNeg, Int.reduceLE, Int.reduceLT, Int.reduceToNat, ↓reduceIte, List.length_cons, List.length_nil, xlc0, xlc1, ite_10, i10, i01, i0_2, i0_3, i0_4, i0_6, i0_7, i0_8, i0_49, i0_10, or_true, true_or, or_false, false_or, not_false_eq_true, not_true_eq_false, xnt, xI_g, eq_self, xI_2, xJ_1, false_and, and_false, obM_t, rMi, vp_tn, tn_def, lgc, nI8, nI6, nI160, nI20, nI401, nI49, aM_6, aM_7, aM_8, aM_9, aM_10, aM_11, aM_12, aM_13, aM_14, aM_15, aM_16, aM_17, aM_18, aM_19, aM_20, aM_21, aM_22, aM_23, aM_24, aM_25, aM_26, aM_27, aM_28, aM_29, aM_30, aM_31, aM_38, aM_39, aM_40, aM_41, aM_42, aM_43, aM_44, aM_45, aM_46, aM_47, lM_6, lM_7, lM_8, lM_9, lM_10, lM_11, lM_12, lM_13, lM_14, lM_15, lM_16, lM_17, lM_18, lM_19, lM_20, lM_21, lM_22, lM_23, lM_24, lM_25, lM_26, lM_27, lM_28, lM_29, lM_30, lM_31, lM_38, lM_39, lM_40, lM_41, lM_42, lM_43, lM_44, lM_45, lM_46, lM_47, dX7_wanted_0, st_aload_n, dX7_wanted_1, st_iload_n, dX7_wanted_2, st_invokevirtual, dX7_wanted_5, st_ifCond, dX7_wanted_8, st_iconst, dX7_wanted_9, st_goto, dX7_wanted_12, dX7_wanted_13, st_getfield, fl_X7_68, dX7_wanted_16, dX7_wanted_17, st_iaload, dX7_wanted_18, dX7_wanted_19, st_if_icmp, dX7_wanted_22, st_bipush, dX7_wanted_24, dX7_wanted_27, dX7_wanted_28, dX7_wanted_31, dX7_wanted_32, dX7_wanted_33, dX7_wanted_36, dX7_wanted_38, dX7_wanted_41, dX7_wanted_42, st_ireturn, c_X7_wanted_132, pX7_isShelf_e, fX7_isShelf_e, Option.toList_some, Option.toList_none, List.cons_append, List.nil_append, ofI_m1, ofJ_2, ofI_m2, ofI_m3, ofI_0, hp1]
  simp only [hR, fX7_wanted_e, wtM]
  clear hR
  grind (splits := 40)
theorem rX7_wanted : ∀ as σ, pX7_wanted as σ → ∃ K as', as = .ref K :: as' ∧ xob WM K 7 := by
  rintro as σ ⟨s, rfl, hpre⟩
  exact ⟨_, _, rfl, by first | exact hpre | exact hpre.1 | exact obT hpre | exact obT hpre.1 | exact obS hpre | exact obS hpre.1 | exact obM | exact ob6 | exact ob2 | exact ob0⟩
def pX7_intAt (as : List Value) (σ : xS) : Prop := ∃ (s : Int32) (i : Int32), as = [.ref 0, .int s, .int i] ∧ ((0 ≤ 160 * s + i) ∧ (tn (160 * s + i) < 1280))
def fX7_intAt (as : List Value) (σ : xS) : Option Value × xS := match as with
  | [.ref 0, .int s, .int i] => (some (.int (inM σ s i)), σ)
  | _ => (none, σ)
theorem pX7_intAt_e {s : Int32} {i : Int32} {σ : xS} : pX7_intAt [.ref 0, .int s, .int i] σ = ((0 ≤ 160 * s + i) ∧ (tn (160 * s + i) < 1280)) := propext ⟨fun h => by obtain ⟨s, i, e, h⟩ := h; cases e; exact h, fun h => ⟨s, i, rfl, h⟩⟩
theorem fX7_intAt_e {s : Int32} {i : Int32} {σ : xS} : fX7_intAt [.ref 0, .int s, .int i] σ = (some (.int (inM σ s i)), σ) := rfl
def calX7_intAt : List (Nat × xCall) := []
set_option maxHeartbeats 4000000 in
set_option maxRecDepth 100000 in
theorem mX7_intAt : xMet WM yX7_intAt cX7_intAt 3 (some .int) 1 pX7_intAt fX7_intAt := by
  refine xMet_of (fld := xlk fldX7) (cal := xlk calX7_intAt) (ks := xlk []) (gs := xlk []) (ro := fun _ => none) 0 (by decide) WM_nd rfl fldX7_ok xKs_nil xGs_nil (Or.inr rfl) xcal_nil ?_ ?_
  · rintro av σ ⟨s, i, rfl, hpre⟩
    exact Nat.le_of_ble_eq_true rfl
  rintro av σ ⟨s, i, rfl, ⟨hp1, hp2⟩⟩ Rt hR
  refine xgo0 12 ?_
  simp -implicitDefEqProofs only [xwp_2, xwp_0, xwp_1, xws_s, xdd_o, xld_0, xld_s, xs1_0, xs1_1, xs1_s, xs2_0, xs2_1, xs2_s, xlg_n, xlg_i, xlg_r, xlg_z, xlg_l, xf4_0, xf4_1, xf4_2, xf4_3, xgo_e, xcmp_eq, xcmp_ne, xcmp_lt, xcmp_ge, xcmp_gt, xcmp_le, xfg_0, xfg_1, xfg_2, xfg_3, xfg_4, xpop_0, xpop_s, xsw_n, xsw_c, xtb_n, xtb_c, xenp_n, xenp_i, xenp_r, xenp_z, xenp_l, xrep_0, xrep_s, Nat.reduceSub, true_and, and_true, cat_i, cat_r, Nat.reduceAdd, Nat.reduceLT, Nat.reduceLeDiff, Nat.reduceEqDiff, xnc, Int.reduceAdd, Int.reduceSub, Int.reduceNeg, Int.reduceLE, Int.reduceLT, Int.reduceToNat, ↓reduceIte, List.length_cons, List.length_nil, xlc0, xlc1, ite_10, i10, i01, i0_2, i0_3, i0_4, i0_6, i0_7, i0_8, i0_49, i0_10, or_true, true_or, or_false, false_or, not_false_eq_true, not_true_eq_false, xnt, xI_g, eq_self, xI_2, xJ_1, false_and, and_false, obM_t, rMi, vp_tn, tn_def, lgc, nI8, nI6, nI160, nI20, nI401, nI49, aM_6, aM_7, aM_8, aM_9, aM_10, aM_11, aM_12, aM_13, aM_14, aM_15, aM_16, aM_17, aM_18, aM_19, aM_20, aM_21, aM_22, aM_23, aM_24, aM_25, aM_26, aM_27, aM_28, aM_29, aM_30, aM_31, aM_38, aM_39, aM_40, aM_41, aM_42, aM_43, aM_44, aM_45, aM_46, aM_47, lM_6, lM_7, lM_8, lM_9, lM_10, lM_11, lM_12, lM_13, lM_14, lM_15, lM_16, lM_17, lM_18, lM_19, lM_20, lM_21, lM_22, lM_23, lM_24, lM_25, lM_26, lM_27, lM_28, lM_29, lM_30, lM_31, lM_38, lM_39, lM_40, lM_41, lM_42, lM_43, lM_44, lM_45, lM_46, lM_47, dX7_intAt_0, st_aload_n, dX7_intAt_1, st_getfield, fl_X7_80, dX7_intAt_4, st_sipush, dX7_intAt_7, st_iload_n, dX7_intAt_8, st_imul, dX7_intAt_9, dX7_intAt_10, st_iadd, dX7_intAt_11, st_laload, dX7_intAt_12, st_l2i, dX7_intAt_13, st_ireturn, ofI_160, hp1, hp2]
  simp only [hR, fX7_intAt_e, inM, and_self]
theorem rX7_intAt : ∀ as σ, pX7_intAt as σ → ∃ K as', as = .ref K :: as' ∧ xob WM K 7 := by
  rintro as σ ⟨s, i, rfl, hpre⟩
  exact ⟨_, _, rfl, by first | exact hpre | exact hpre.1 | exact obT hpre | exact obT hpre.1 | exact obS hpre | exact obS hpre.1 | exact obM | exact ob6 | exact ob2 | exact ob0⟩
def pX7_bars (as : List Value) (σ : xS) : Prop := ∃ (s : Int32) (n : Int32) (d : Int32), as = [.ref 0, .int s, .int n, .int d] ∧ (True)
def fX7_bars (as : List Value) (σ : xS) : Option Value × xS := match as with
  | [.ref 0, .int s, .int n, .int d] => (some (.int (brM σ s n d)), σ)
  | _ => (none, σ)
theorem pX7_bars_e {s : Int32} {n : Int32} {d : Int32} {σ : xS} : pX7_bars [.ref 0, .int s, .int n, .int d] σ = (True) := propext ⟨fun h => by obtain ⟨s, n, d, e, h⟩ := h; cases e; exact h, fun h => ⟨s, n, d, rfl, h⟩⟩
theorem fX7_bars_e {s : Int32} {n : Int32} {d : Int32} {σ : xS} : fX7_bars [.ref 0, .int s, .int n, .int d] σ = (some (.int (brM σ s n d)), σ) := rfl
def calX7_bars : List (Nat × xCall) := [(150, (false, 2, pX7_wanted, fX7_wanted))]
theorem c_X7_bars_150 : xlk calX7_bars 150 = some (false, 2, pX7_wanted, fX7_wanted) := rfl
set_option maxHeartbeats 4000000 in
set_option maxRecDepth 100000 in
theorem mX7_bars : xMet WM yX7_bars cX7_bars 5 (some .int) 3 pX7_bars fX7_bars := by
  refine xMet_of (fld := xlk fldX7) (cal := xlk calX7_bars) (ks := xlk []) (gs := xlk []) (ro := fun _ => none) 0 (by decide) WM_nd rfl fldX7_ok xKs_nil xGs_nil (Or.inr rfl) (xcal_cons (xCk_V mX7_wanted 7 (by decide) (by decide) (by decide) rfl (fun as σ h _ => rX7_wanted as σ h) w_X7_150 ⟨by decide, by decide, by decide +kernel⟩) xcal_nil) ?_ ?_
  · rintro av σ ⟨s, n, d, rfl, hpre⟩
    exact Nat.le_of_ble_eq_true rfl
  rintro av σ ⟨s, n, d, rfl, hp1⟩ Rt hR
  have h8 : wtM σ s = 0 → 0 ≤ s ∧ tn s < 8 := fun h => by
    unfold wtM at h
    by_cases q : 0 ≤ s ∧ s < 8
    · exact ⟨q.1, tn8 q⟩
    · rw [if_pos q] at h; exact absurd h (by decide)
  refine xgo0 30 ?_
  simp -implicitDefEqProofs only [xwp_2, xwp_0, xwp_1, xws_s, xdd_o, xld_0, xld_s, xs1_0, xs1_1, xs1_s, xs2_0, xs2_1, xs2_s, xlg_n, xlg_i, xlg_r, xlg_z, xlg_l, xf4_0, xf4_1, xf4_2, xf4_3, xgo_e, xcmp_eq, xcmp_ne, xcmp_lt, xcmp_ge, xcmp_gt, xcmp_le, xfg_0, xfg_1, xfg_2, xfg_3, xfg_4, xpop_0, xpop_s, xsw_n, xsw_c, xtb_n, xtb_c, xenp_n, xenp_i, xenp_r, xenp_z, xenp_l, xrep_0, xrep_s, Nat.reduceSub, true_and, and_true, cat_i, cat_r, Nat.reduceAdd, Nat.reduceLT, Nat.reduceLeDiff, Nat.reduceEqDiff, xnc, Int.reduceAdd, Int.reduceSub, Int.reduceNeg, Int.reduceLE, Int.reduceLT, Int.reduceToNat, ↓reduceIte, List.length_cons, List.length_nil, xlc0, xlc1, ite_10, i10, i01, i0_2, i0_3, i0_4, i0_6, i0_7, i0_8, i0_49, i0_10, or_true, true_or, or_false, false_or, not_false_eq_true, not_true_eq_false, xnt, xI_g, eq_self, xI_2, xJ_1, false_and, and_false, obM_t, rMi, vp_tn, tn_def, lgc, nI8, nI6, nI160, nI20, nI401, nI49, aM_6, aM_7, aM_8, aM_9, aM_10, aM_11, aM_12, aM_13, aM_14, aM_15, aM_16, aM_17, aM_18, aM_19, aM_20, aM_21, aM_22, aM_23, aM_24, aM_25, aM_26, aM_27, aM_28, aM_29, aM_30, aM_31, aM_38, aM_39, aM_40, aM_41, aM_42, aM_43, aM_44, aM_45, aM_46, aM_47, lM_6, lM_7, lM_8, lM_9, lM_10, lM_11, lM_12, lM_13, lM_14, lM_15, lM_16, lM_17, lM_18, lM_19, lM_20, lM_21, lM_22, lM_23, lM_24, lM_25, lM_26, lM_27, lM_28, lM_29, lM_30, lM_31, lM_38, lM_39, lM_40, lM_41, lM_42, lM_43, lM_44, lM_45, lM_46, lM_47, dX7_bars_0, st_aload_n, dX7_bars_1, st_iload_n, dX7_bars_2, st_invokevirtual, dX7_bars_5, st_istore, dX7_bars_7, st_iload, dX7_bars_9, st_ifCond, dX7_bars_12, dX7_bars_14, st_ireturn, dX7_bars_15, dX7_bars_16, dX7_bars_19, st_bipush, dX7_bars_21, st_goto, dX7_bars_24, dX7_bars_25, st_i2l, dX7_bars_26, dX7_bars_27, dX7_bars_28, st_lmul, dX7_bars_29, dX7_bars_30, st_getfield, fl_X7_74, dX7_bars_33, dX7_bars_34, st_iaload, dX7_bars_35, dX7_bars_36, st_lcmp, dX7_bars_37, dX7_bars_40, dX7_bars_42, dX7_bars_45, st_iconst, dX7_bars_46, c_X7_bars_150, pX7_wanted_e, fX7_wanted_e, Option.toList_some, Option.toList_none, List.cons_append, List.nil_append, ofI_m4, ofI_m5, ofI_0, hp1, lgle]
  simp only [hR, fX7_bars_e, brM]
  clear hR
  generalize wtM σ s = u at *
  grind (splits := 40)
theorem rX7_bars : ∀ as σ, pX7_bars as σ → ∃ K as', as = .ref K :: as' ∧ xob WM K 7 := by
  rintro as σ ⟨s, n, d, rfl, hpre⟩
  exact ⟨_, _, rfl, by first | exact hpre | exact hpre.1 | exact obT hpre | exact obT hpre.1 | exact obS hpre | exact obS hpre.1 | exact obM | exact ob6 | exact ob2 | exact ob0⟩
def ofM (σ : xS) (w : Nat) (x : Int32) : Int32 := if x = 0 then σ.1 13 w else if x = 1 then σ.1 14 w else if x = 2 then σ.1 15 w else if x = 3 then σ.1 16 w else σ.1 17 w
def pX7_of (as : List Value) (σ : xS) : Prop := ∃ (x : Int32) (y : Int32), as = [.ref 0, .int x, .int y] ∧ ((0 ≤ x) ∧ (tn x < 6))
def fX7_of (as : List Value) (σ : xS) : Option Value × xS := match as with
  | [.ref 0, .int x, .int y] => (some (.int (ofM σ (tn x) y)), σ)
  | _ => (none, σ)
theorem pX7_of_e {x : Int32} {y : Int32} {σ : xS} : pX7_of [.ref 0, .int x, .int y] σ = ((0 ≤ x) ∧ (tn x < 6)) := propext ⟨fun h => by obtain ⟨x, y, e, h⟩ := h; cases e; exact h, fun h => ⟨x, y, rfl, h⟩⟩
theorem fX7_of_e {x : Int32} {y : Int32} {σ : xS} : fX7_of [.ref 0, .int x, .int y] σ = (some (.int (ofM σ (tn x) y)), σ) := rfl
def calX7_of : List (Nat × xCall) := []
set_option maxHeartbeats 4000000 in
set_option maxRecDepth 100000 in
theorem mX7_of : xMet WM yX7_of cX7_of 3 (some .int) 1 pX7_of fX7_of := by
  refine xMet_of (fld := xlk fldX7) (cal := xlk calX7_of) (ks := xlk []) (gs := xlk []) (ro := fun _ => none) 0 (by decide) WM_nd rfl fldX7_ok xKs_nil xGs_nil (Or.inr rfl) xcal_nil ?_ ?_
  · rintro av σ ⟨x, y, rfl, hpre⟩
    exact Nat.le_of_ble_eq_true rfl
  rintro av σ ⟨x, y, rfl, ⟨hp1, hp2⟩⟩ Rt hR
  refine xgo0 29 ?_
  simp -implicitDefEqProofs only [xwp_2, xwp_0, xwp_1, xws_s, xdd_o, xld_0, xld_s, xs1_0, xs1_1, xs1_s, xs2_0, xs2_1, xs2_s, xlg_n, xlg_i, xlg_r, xlg_z, xlg_l, xf4_0, xf4_1, xf4_2, xf4_3, xgo_e, xcmp_eq, xcmp_ne, xcmp_lt, xcmp_ge, xcmp_gt, xcmp_le, xfg_0, xfg_1, xfg_2, xfg_3, xfg_4, xpop_0, xpop_s, xsw_n, xsw_c, xtb_n, xtb_c, xenp_n, xenp_i, xenp_r, xenp_z, xenp_l, xrep_0, xrep_s, Nat.reduceSub, true_and, and_true, cat_i, cat_r, Nat.reduceAdd, Nat.reduceLT, Nat.reduceLeDiff, Nat.reduceEqDiff, xnc, Int.reduceAdd, Int.reduceSub, Int.reduceNeg, Int.reduceLE, Int.reduceLT, Int.reduceToNat, ↓reduceIte, List.length_cons, List.length_nil, xlc0, xlc1, ite_10, i10, i01, i0_2, i0_3, i0_4, i0_6, i0_7, i0_8, i0_49, i0_10, or_true, true_or, or_false, false_or, not_false_eq_true, not_true_eq_false, xnt, xI_g, eq_self, xI_2, xJ_1, false_and, and_false, obM_t, rMi, vp_tn, tn_def, lgc, nI8, nI6, nI160, nI20, nI401, nI49, aM_6, aM_7, aM_8, aM_9, aM_10, aM_11, aM_12, aM_13, aM_14, aM_15, aM_16, aM_17, aM_18, aM_19, aM_20, aM_21, aM_22, aM_23, aM_24, aM_25, aM_26, aM_27, aM_28, aM_29, aM_30, aM_31, aM_38, aM_39, aM_40, aM_41, aM_42, aM_43, aM_44, aM_45, aM_46, aM_47, lM_6, lM_7, lM_8, lM_9, lM_10, lM_11, lM_12, lM_13, lM_14, lM_15, lM_16, lM_17, lM_18, lM_19, lM_20, lM_21, lM_22, lM_23, lM_24, lM_25, lM_26, lM_27, lM_28, lM_29, lM_30, lM_31, lM_38, lM_39, lM_40, lM_41, lM_42, lM_43, lM_44, lM_45, lM_46, lM_47, dX7_of_0, st_iload_n, dX7_of_1, st_tableswitch, dX7_of_32, st_aload_n, dX7_of_33, st_getfield, fl_X7_38, dX7_of_36, dX7_of_37, st_iaload, dX7_of_38, st_ireturn, dX7_of_39, dX7_of_40, fl_X7_41, dX7_of_43, dX7_of_44, dX7_of_45, dX7_of_46, dX7_of_47, fl_X7_44, dX7_of_50, dX7_of_51, dX7_of_52, dX7_of_53, dX7_of_54, fl_X7_47, dX7_of_57, dX7_of_58, dX7_of_59, dX7_of_60, dX7_of_61, fl_X7_50, dX7_of_64, dX7_of_65, dX7_of_66, ofI_m2, ofI_m1, ofI_0, ofJ_1, ofJ_2, ofJ_3, ofI_4, ofI_5, ofI_6, ofI_7, ofI_8, ofI_9, ofI_10, ofI_11, hp1, hp2]
  simp only [hR, fX7_of_e, ofM]
  clear hR
  grind (splits := 40)
theorem rX7_of : ∀ as σ, pX7_of as σ → ∃ K as', as = .ref K :: as' ∧ xob WM K 7 := by
  rintro as σ ⟨x, y, rfl, hpre⟩
  exact ⟨_, _, rfl, by first | exact hpre | exact hpre.1 | exact obT hpre | exact obT hpre.1 | exact obS hpre | exact obS hpre.1 | exact obM | exact ob6 | exact ob2 | exact ob0⟩
def pX7_wrong (as : List Value) (σ : xS) : Prop := ∃ (p : Int32), as = [.ref 0, .int p] ∧ (True)
def fX7_wrong (as : List Value) (σ : xS) : Option Value × xS := match as with
  | [.ref 0, .int p] => (some (.int 0), xI σ 0 37 p)
  | _ => (none, σ)
theorem pX7_wrong_e {p : Int32} {σ : xS} : pX7_wrong [.ref 0, .int p] σ = (True) := propext ⟨fun h => by obtain ⟨p, e, h⟩ := h; cases e; exact h, fun h => ⟨p, rfl, h⟩⟩
theorem fX7_wrong_e {p : Int32} {σ : xS} : fX7_wrong [.ref 0, .int p] σ = (some (.int 0), xI σ 0 37 p) := rfl
def calX7_wrong : List (Nat × xCall) := []
set_option maxHeartbeats 4000000 in
set_option maxRecDepth 100000 in
theorem mX7_wrong : xMet WM yX7_wrong cX7_wrong 2 (some .boolean) 1 pX7_wrong fX7_wrong := by
  refine xMet_of (fld := xlk fldX7) (cal := xlk calX7_wrong) (ks := xlk []) (gs := xlk []) (ro := fun _ => none) 1 (by decide) WM_nd rfl fldX7_ok xKs_nil xGs_nil (Or.inr rfl) xcal_nil ?_ ?_
  · rintro av σ ⟨p, rfl, hpre⟩
    exact Nat.le_of_ble_eq_true rfl
  rintro av σ ⟨p, rfl, hp1⟩ Rt hR
  refine xgo0 7 ?_
  simp -implicitDefEqProofs only [xwp_2, xwp_0, xwp_1, xws_s, xdd_o, xld_0, xld_s, xs1_0, xs1_1, xs1_s, xs2_0, xs2_1, xs2_s, xlg_n, xlg_i, xlg_r, xlg_z, xlg_l, xf4_0, xf4_1, xf4_2, xf4_3, xgo_e, xcmp_eq, xcmp_ne, xcmp_lt, xcmp_ge, xcmp_gt, xcmp_le, xfg_0, xfg_1, xfg_2, xfg_3, xfg_4, xpop_0, xpop_s, xsw_n, xsw_c, xtb_n, xtb_c, xenp_n, xenp_i, xenp_r, xenp_z, xenp_l, xrep_0, xrep_s, Nat.reduceSub, true_and, and_true, cat_i, cat_r, Nat.reduceAdd, Nat.reduceLT, Nat.reduceLeDiff, Nat.reduceEqDiff, xnc, Int.reduceAdd, Int.reduceSub, Int.reduceNeg, Int.reduceLE, Int.reduceLT, Int.reduceToNat, ↓reduceIte, List.length_cons, List.length_nil, xlc0, xlc1, ite_10, i10, i01, i0_2, i0_3, i0_4, i0_6, i0_7, i0_8, i0_49, i0_10, or_true, true_or, or_false, false_or, not_false_eq_true, not_true_eq_false, xnt, xI_g, eq_self, xI_2, xJ_1, false_and, and_false, obM_t, rMi, vp_tn, tn_def, lgc, nI8, nI6, nI160, nI20, nI401, nI49, aM_6, aM_7, aM_8, aM_9, aM_10, aM_11, aM_12, aM_13, aM_14, aM_15, aM_16, aM_17, aM_18, aM_19, aM_20, aM_21, aM_22, aM_23, aM_24, aM_25, aM_26, aM_27, aM_28, aM_29, aM_30, aM_31, aM_38, aM_39, aM_40, aM_41, aM_42, aM_43, aM_44, aM_45, aM_46, aM_47, lM_6, lM_7, lM_8, lM_9, lM_10, lM_11, lM_12, lM_13, lM_14, lM_15, lM_16, lM_17, lM_18, lM_19, lM_20, lM_21, lM_22, lM_23, lM_24, lM_25, lM_26, lM_27, lM_28, lM_29, lM_30, lM_31, lM_38, lM_39, lM_40, lM_41, lM_42, lM_43, lM_44, lM_45, lM_46, lM_47, dX7_wrong_0, st_aload_n, dX7_wrong_1, st_iload_n, dX7_wrong_2, st_putfield, fl_X7_180, dX7_wrong_5, st_iconst, dX7_wrong_6, st_ireturn, ofI_0, hp1]
  simp only [hR, fX7_wrong_e, and_self]
theorem rX7_wrong : ∀ as σ, pX7_wrong as σ → ∃ K as', as = .ref K :: as' ∧ xob WM K 7 := by
  rintro as σ ⟨p, rfl, hpre⟩
  exact ⟨_, _, rfl, by first | exact hpre | exact hpre.1 | exact obT hpre | exact obT hpre.1 | exact obS hpre | exact obS hpre.1 | exact obM | exact ob6 | exact ob2 | exact ob0⟩
def bsM (p q : Int32) : Int32 := (p / 7 - q / 7) * (p / 7 - q / 7) + (xrem p 7 - xrem q 7) * (xrem p 7 - xrem q 7)
theorem i7_0 : ((7 : Int32) = 0) = False := eq_false (by decide)
theorem i4_0' : ((4 : Int32) = 0) = False := eq_false (by decide)
def pX7_isBeside (as : List Value) (σ : xS) : Prop := ∃ (p : Int32) (q : Int32), as = [.ref 0, .int p, .int q] ∧ (True)
def fX7_isBeside (as : List Value) (σ : xS) : Option Value × xS := match as with
  | [.ref 0, .int p, .int q] => (some (.int (if bsM p q = 1 then 1 else 0)), σ)
  | _ => (none, σ)
theorem pX7_isBeside_e {p : Int32} {q : Int32} {σ : xS} : pX7_isBeside [.ref 0, .int p, .int q] σ = (True) := propext ⟨fun h => by obtain ⟨p, q, e, h⟩ := h; cases e; exact h, fun h => ⟨p, q, rfl, h⟩⟩
theorem fX7_isBeside_e {p : Int32} {q : Int32} {σ : xS} : fX7_isBeside [.ref 0, .int p, .int q] σ = (some (.int (if bsM p q = 1 then 1 else 0)), σ) := rfl
def calX7_isBeside : List (Nat × xCall) := []
set_option maxHeartbeats 4000000 in
set_option maxRecDepth 100000 in
theorem mX7_isBeside : xMet WM yX7_isBeside cX7_isBeside 5 (some .boolean) 1 pX7_isBeside fX7_isBeside := by
  refine xMet_of (fld := xlk fldX7) (cal := xlk calX7_isBeside) (ks := xlk []) (gs := xlk []) (ro := fun _ => none) 1 (by decide) WM_nd rfl fldX7_ok xKs_nil xGs_nil (Or.inr rfl) xcal_nil ?_ ?_
  · rintro av σ ⟨p, q, rfl, hpre⟩
    exact Nat.le_of_ble_eq_true rfl
  rintro av σ ⟨p, q, rfl, hp1⟩ Rt hR
  have e1 : bsM p q = (p / 7 - q / 7) * (p / 7 - q / 7) + (xrem p 7 - xrem q 7) * (xrem p 7 - xrem q 7) := rfl
  refine xgo0 31 ?_
  simp -implicitDefEqProofs only [xwp_2, xwp_0, xwp_1, xws_s, xdd_o, xld_0, xld_s, xs1_0, xs1_1, xs1_s, xs2_0, xs2_1, xs2_s, xlg_n, xlg_i, xlg_r, xlg_z, xlg_l, xf4_0, xf4_1, xf4_2, xf4_3, xgo_e, xcmp_eq, xcmp_ne, xcmp_lt, xcmp_ge, xcmp_gt, xcmp_le, xfg_0, xfg_1, xfg_2, xfg_3, xfg_4, xpop_0, xpop_s, xsw_n, xsw_c, xtb_n, xtb_c, xenp_n, xenp_i, xenp_r, xenp_z, xenp_l, xrep_0, xrep_s, Nat.reduceSub, true_and, and_true, cat_i, cat_r, Nat.reduceAdd, Nat.reduceLT, Nat.reduceLeDiff, Nat.reduceEqDiff, xnc, Int.reduceAdd, Int.reduceSub, Int.reduceNeg, Int.reduceLE, Int.reduceLT, Int.reduceToNat, ↓reduceIte, List.length_cons, List.length_nil, xlc0, xlc1, ite_10, i10, i01, i0_2, i0_3, i0_4, i0_6, i0_7, i0_8, i0_49, i0_10, or_true, true_or, or_false, false_or, not_false_eq_true, not_true_eq_false, xnt, xI_g, eq_self, xI_2, xJ_1, false_and, and_false, obM_t, rMi, vp_tn, tn_def, lgc, nI8, nI6, nI160, nI20, nI401, nI49, aM_6, aM_7, aM_8, aM_9, aM_10, aM_11, aM_12, aM_13, aM_14, aM_15, aM_16, aM_17, aM_18, aM_19, aM_20, aM_21, aM_22, aM_23, aM_24, aM_25, aM_26, aM_27, aM_28, aM_29, aM_30, aM_31, aM_38, aM_39, aM_40, aM_41, aM_42, aM_43, aM_44, aM_45, aM_46, aM_47, lM_6, lM_7, lM_8, lM_9, lM_10, lM_11, lM_12, lM_13, lM_14, lM_15, lM_16, lM_17, lM_18, lM_19, lM_20, lM_21, lM_22, lM_23, lM_24, lM_25, lM_26, lM_27, lM_28, lM_29, lM_30, lM_31, lM_38, lM_39, lM_40, lM_41, lM_42, lM_43, lM_44, lM_45, lM_46, lM_47, dX7_isBeside_0, st_iload_n, dX7_isBeside_1, st_bipush, dX7_isBeside_3, st_idiv, dX7_isBeside_4, dX7_isBeside_5, dX7_isBeside_7, dX7_isBeside_8, st_isub, dX7_isBeside_9, st_istore_n, dX7_isBeside_10, dX7_isBeside_11, dX7_isBeside_13, st_irem, dX7_isBeside_14, dX7_isBeside_15, dX7_isBeside_17, dX7_isBeside_18, dX7_isBeside_19, st_istore, dX7_isBeside_21, dX7_isBeside_22, dX7_isBeside_23, st_imul, dX7_isBeside_24, st_iload, dX7_isBeside_26, dX7_isBeside_28, dX7_isBeside_29, st_iadd, dX7_isBeside_30, st_iconst, dX7_isBeside_31, st_if_icmp, dX7_isBeside_34, dX7_isBeside_35, st_goto, dX7_isBeside_38, dX7_isBeside_39, st_ireturn, ofI_7, ofJ_1, ofI_0, hp1, i7_0, ← e1]
  simp only [hR, fX7_isBeside_e]
  clear hR e1
  generalize bsM p q = u at *
  grind
theorem rX7_isBeside : ∀ as σ, pX7_isBeside as σ → ∃ K as', as = .ref K :: as' ∧ xob WM K 7 := by
  rintro as σ ⟨p, q, rfl, hpre⟩
  exact ⟨_, _, rfl, by first | exact hpre | exact hpre.1 | exact obT hpre | exact obT hpre.1 | exact obS hpre | exact obS hpre.1 | exact obM | exact ob6 | exact ob2 | exact ob0⟩
def rwM (p d : Int32) : Int32 := p / 7 + (if d = 0 then -1 else if d = 2 then 1 else 0)
def clM (p d : Int32) : Int32 := xrem p 7 + (if d = 1 then 1 else if d = 3 then -1 else 0)
def ahM (σ : xS) (p d : Int32) : Int32 := if rwM p d < 0 ∨ 6 < rwM p d ∨ clM p d < 0 ∨ 6 < clM p d then -1 else if σ.1 10 (tn (7 * rwM p d + clM p d)) = 1 then -1 else 7 * rwM p d + clM p d
theorem ahI {r c : Int32} (h1 : ¬ r < 0) (h2 : ¬ 6 < r) (h3 : ¬ c < 0) (h4 : ¬ 6 < c) : 0 ≤ 7 * r + c ∧ tn (7 * r + c) < 49 := by
  have a1 := t_le.mp (Int32.not_lt.mp h1)
  have a2 := t_le.mp (Int32.not_lt.mp h2)
  have a3 := t_le.mp (Int32.not_lt.mp h3)
  have a4 := t_le.mp (Int32.not_lt.mp h4)
  have e0 : (0 : Int32).toInt = 0 := rfl
  have e6 : (6 : Int32).toInt = 6 := rfl
  have e7 : (7 : Int32).toInt = 7 := rfl
  rw [e0] at a1 a3
  rw [e6] at a2 a4
  have m : (7 * r).toInt = 7 * r.toInt := by rw [t_mul (by rw [e7]; omega) (by rw [e7]; omega), e7]
  have s : (7 * r + c).toInt = 7 * r.toInt + c.toInt := by rw [t_add (by rw [m]; omega) (by rw [m]; omega), m]
  constructor
  · rw [t_le, s, e0]; omega
  · rw [t_tn, s]; omega
def pX7_ahead (as : List Value) (σ : xS) : Prop := ∃ (p : Int32) (d : Int32), as = [.ref 0, .int p, .int d] ∧ (True)
def fX7_ahead (as : List Value) (σ : xS) : Option Value × xS := match as with
  | [.ref 0, .int p, .int d] => (some (.int (ahM σ p d)), σ)
  | _ => (none, σ)
theorem pX7_ahead_e {p : Int32} {d : Int32} {σ : xS} : pX7_ahead [.ref 0, .int p, .int d] σ = (True) := propext ⟨fun h => by obtain ⟨p, d, e, h⟩ := h; cases e; exact h, fun h => ⟨p, d, rfl, h⟩⟩
theorem fX7_ahead_e {p : Int32} {d : Int32} {σ : xS} : fX7_ahead [.ref 0, .int p, .int d] σ = (some (.int (ahM σ p d)), σ) := rfl
def calX7_ahead : List (Nat × xCall) := []
set_option maxHeartbeats 4000000 in
set_option maxRecDepth 100000 in
theorem mX7_ahead : xMet WM yX7_ahead cX7_ahead 5 (some .int) 1 pX7_ahead fX7_ahead := by
  refine xMet_of (fld := xlk fldX7) (cal := xlk calX7_ahead) (ks := xlk []) (gs := xlk []) (ro := fun _ => none) 0 (by decide) WM_nd rfl fldX7_ok xKs_nil xGs_nil (Or.inr rfl) xcal_nil ?_ ?_
  · rintro av σ ⟨p, d, rfl, hpre⟩
    exact Nat.le_of_ble_eq_true rfl
  rintro av σ ⟨p, d, rfl, hp1⟩ Rt hR
  by_cases h0 : d = 0
  · subst h0
    have e1 : p / 7 + -1 = rwM p 0 := by unfold rwM; rw [if_pos rfl]
    have e2 : xrem p 7 + 0 = clM p 0 := by unfold clM; rw [if_neg (by decide), if_neg (by decide)]
    have d0 : ((0 : Int32) = 0) = True := eq_true rfl
    have d1 : ((0 : Int32) = 1) = False := eq_false (by decide)
    have d2 : ((0 : Int32) = 2) = False := eq_false (by decide)
    have d3 : ((0 : Int32) = 3) = False := eq_false (by decide)
    refine xgo0 63 ?_
    simp -implicitDefEqProofs only [xwp_2, xwp_0, xwp_1, xws_s, xdd_o, xld_0, xld_s, xs1_0, xs1_1, xs1_s, xs2_0, xs2_1, xs2_s, xlg_n, xlg_i, xlg_r, xlg_z, xlg_l, xf4_0, xf4_1, xf4_2, xf4_3, xgo_e, xcmp_eq, xcmp_ne, xcmp_lt, xcmp_ge, xcmp_gt, xcmp_le, xfg_0, xfg_1, xfg_2, xfg_3, xfg_4, xpop_0, xpop_s, xsw_n, xsw_c, xtb_n, xtb_c, xenp_n, xenp_i, xenp_r, xenp_z, xenp_l, xrep_0, xrep_s, Nat.reduceSub, true_and, and_true, cat_i, cat_r, Nat.reduceAdd, Nat.reduceLT, Nat.reduceLeDiff, Nat.reduceEqDiff, xnc, Int.reduceAdd, Int.reduceSub, Int.reduceNeg, Int.reduceLE, Int.reduceLT, Int.reduceToNat, ↓reduceIte, List.length_cons, List.length_nil, xlc0, xlc1, ite_10, i10, i01, i0_2, i0_3, i0_4, i0_6, i0_7, i0_8, i0_49, i0_10, or_true, true_or, or_false, false_or, not_false_eq_true, not_true_eq_false, xnt, xI_g, eq_self, xI_2, xJ_1, false_and, and_false, obM_t, rMi, vp_tn, tn_def, lgc, nI8, nI6, nI160, nI20, nI401, nI49, aM_6, aM_7, aM_8, aM_9, aM_10, aM_11, aM_12, aM_13, aM_14, aM_15, aM_16, aM_17, aM_18, aM_19, aM_20, aM_21, aM_22, aM_23, aM_24, aM_25, aM_26, aM_27, aM_28, aM_29, aM_30, aM_31, aM_38, aM_39, aM_40, aM_41, aM_42, aM_43, aM_44, aM_45, aM_46, aM_47, lM_6, lM_7, lM_8, lM_9, lM_10, lM_11, lM_12, lM_13, lM_14, lM_15, lM_16, lM_17, lM_18, lM_19, lM_20, lM_21, lM_22, lM_23, lM_24, lM_25, lM_26, lM_27, lM_28, lM_29, lM_30, lM_31, lM_38, lM_39, lM_40, lM_41, lM_42, lM_43, lM_44, lM_45, lM_46, lM_47, dX7_ahead_0, st_iload_n, dX7_ahead_1, st_bipush, dX7_ahead_3, st_idiv, dX7_ahead_4, dX7_ahead_5, st_ifCond, dX7_ahead_8, st_iconst, dX7_ahead_9, st_goto, dX7_ahead_12, dX7_ahead_13, dX7_ahead_14, st_if_icmp, dX7_ahead_17, dX7_ahead_18, dX7_ahead_21, dX7_ahead_22, st_iadd, dX7_ahead_23, st_istore_n, dX7_ahead_24, dX7_ahead_25, dX7_ahead_27, st_irem, dX7_ahead_28, dX7_ahead_29, dX7_ahead_30, dX7_ahead_33, dX7_ahead_34, dX7_ahead_37, dX7_ahead_38, dX7_ahead_39, dX7_ahead_42, dX7_ahead_43, dX7_ahead_46, dX7_ahead_47, dX7_ahead_48, st_istore, dX7_ahead_50, dX7_ahead_51, dX7_ahead_54, dX7_ahead_55, dX7_ahead_57, dX7_ahead_60, st_iload, dX7_ahead_62, dX7_ahead_65, dX7_ahead_67, dX7_ahead_69, dX7_ahead_72, dX7_ahead_73, st_ireturn, dX7_ahead_74, st_aload_n, dX7_ahead_75, st_getfield, fl_X7_29, dX7_ahead_78, dX7_ahead_80, dX7_ahead_81, st_imul, dX7_ahead_82, dX7_ahead_84, dX7_ahead_85, st_iaload, dX7_ahead_86, dX7_ahead_87, dX7_ahead_90, dX7_ahead_91, dX7_ahead_94, dX7_ahead_96, dX7_ahead_97, dX7_ahead_98, dX7_ahead_100, dX7_ahead_101, ofI_7, ofI_m1, ofJ_2, ofJ_1, ofI_0, ofJ_3, ofI_6, hp1, i7_0, d0, d1, d2, d3, e1, e2]
    simp only [true_implies, false_implies, and_true, true_and, not_true_eq_false, not_false_eq_true, e1, e2]
    have hA := ahI (r := rwM p 0) (c := clM p 0)
    simp only [hR, fX7_ahead_e, ahM]
    clear hR e1 e2
    generalize rwM p 0 = R at *
    generalize clM p 0 = C at *
    grind (splits := 40)
  · by_cases h1 : d = 1
    · subst h1
      have e1 : p / 7 + 0 = rwM p 1 := by unfold rwM; rw [if_neg (by decide), if_neg (by decide)]
      have e2 : xrem p 7 + 1 = clM p 1 := by unfold clM; rw [if_pos rfl]
      have d0 : ((1 : Int32) = 0) = False := eq_false (by decide)
      have d1 : ((1 : Int32) = 1) = True := eq_true rfl
      have d2 : ((1 : Int32) = 2) = False := eq_false (by decide)
      have d3 : ((1 : Int32) = 3) = False := eq_false (by decide)
      refine xgo0 63 ?_
      simp -implicitDefEqProofs only [xwp_2, xwp_0, xwp_1, xws_s, xdd_o, xld_0, xld_s, xs1_0, xs1_1, xs1_s, xs2_0, xs2_1, xs2_s, xlg_n, xlg_i, xlg_r, xlg_z, xlg_l, xf4_0, xf4_1, xf4_2, xf4_3, xgo_e, xcmp_eq, xcmp_ne, xcmp_lt, xcmp_ge, xcmp_gt, xcmp_le, xfg_0, xfg_1, xfg_2, xfg_3, xfg_4, xpop_0, xpop_s, xsw_n, xsw_c, xtb_n, xtb_c, xenp_n, xenp_i, xenp_r, xenp_z, xenp_l, xrep_0, xrep_s, Nat.reduceSub, true_and, and_true, cat_i, cat_r, Nat.reduceAdd, Nat.reduceLT, Nat.reduceLeDiff, Nat.reduceEqDiff, xnc, Int.reduceAdd, Int.reduceSub, Int.reduceNeg, Int.reduceLE, Int.reduceLT, Int.reduceToNat, ↓reduceIte, List.length_cons, List.length_nil, xlc0, xlc1, ite_10, i10, i01, i0_2, i0_3, i0_4, i0_6, i0_7, i0_8, i0_49, i0_10, or_true, true_or, or_false, false_or, not_false_eq_true, not_true_eq_false, xnt, xI_g, eq_self, xI_2, xJ_1, false_and, and_false, obM_t, rMi, vp_tn, tn_def, lgc, nI8, nI6, nI160, nI20, nI401, nI49, aM_6, aM_7, aM_8, aM_9, aM_10, aM_11, aM_12, aM_13, aM_14, aM_15, aM_16, aM_17, aM_18, aM_19, aM_20, aM_21, aM_22, aM_23, aM_24, aM_25, aM_26, aM_27, aM_28, aM_29, aM_30, aM_31, aM_38, aM_39, aM_40, aM_41, aM_42, aM_43, aM_44, aM_45, aM_46, aM_47, lM_6, lM_7, lM_8, lM_9, lM_10, lM_11, lM_12, lM_13, lM_14, lM_15, lM_16, lM_17, lM_18, lM_19, lM_20, lM_21, lM_22, lM_23, lM_24, lM_25, lM_26, lM_27, lM_28, lM_29, lM_30, lM_31, lM_38, lM_39, lM_40, lM_41, lM_42, lM_43, lM_44, lM_45, lM_46, lM_47, dX7_ahead_0, st_iload_n, dX7_ahead_1, st_bipush, dX7_ahead_3, st_idiv, dX7_ahead_4, dX7_ahead_5, st_ifCond, dX7_ahead_8, st_iconst, dX7_ahead_9, st_goto, dX7_ahead_12, dX7_ahead_13, dX7_ahead_14, st_if_icmp, dX7_ahead_17, dX7_ahead_18, dX7_ahead_21, dX7_ahead_22, st_iadd, dX7_ahead_23, st_istore_n, dX7_ahead_24, dX7_ahead_25, dX7_ahead_27, st_irem, dX7_ahead_28, dX7_ahead_29, dX7_ahead_30, dX7_ahead_33, dX7_ahead_34, dX7_ahead_37, dX7_ahead_38, dX7_ahead_39, dX7_ahead_42, dX7_ahead_43, dX7_ahead_46, dX7_ahead_47, dX7_ahead_48, st_istore, dX7_ahead_50, dX7_ahead_51, dX7_ahead_54, dX7_ahead_55, dX7_ahead_57, dX7_ahead_60, st_iload, dX7_ahead_62, dX7_ahead_65, dX7_ahead_67, dX7_ahead_69, dX7_ahead_72, dX7_ahead_73, st_ireturn, dX7_ahead_74, st_aload_n, dX7_ahead_75, st_getfield, fl_X7_29, dX7_ahead_78, dX7_ahead_80, dX7_ahead_81, st_imul, dX7_ahead_82, dX7_ahead_84, dX7_ahead_85, st_iaload, dX7_ahead_86, dX7_ahead_87, dX7_ahead_90, dX7_ahead_91, dX7_ahead_94, dX7_ahead_96, dX7_ahead_97, dX7_ahead_98, dX7_ahead_100, dX7_ahead_101, ofI_7, ofI_m1, ofJ_2, ofJ_1, ofI_0, ofJ_3, ofI_6, hp1, i7_0, d0, d1, d2, d3, e1, e2]
      simp only [true_implies, false_implies, and_true, true_and, not_true_eq_false, not_false_eq_true, e1, e2]
      have hA := ahI (r := rwM p 1) (c := clM p 1)
      simp only [hR, fX7_ahead_e, ahM]
      clear hR e1 e2
      generalize rwM p 1 = R at *
      generalize clM p 1 = C at *
      grind (splits := 40)
    · by_cases h2 : d = 2
      · subst h2
        have e1 : p / 7 + 1 = rwM p 2 := by unfold rwM; rw [if_neg (by decide), if_pos rfl]
        have e2 : xrem p 7 + 0 = clM p 2 := by unfold clM; rw [if_neg (by decide), if_neg (by decide)]
        have d0 : ((2 : Int32) = 0) = False := eq_false (by decide)
        have d1 : ((2 : Int32) = 1) = False := eq_false (by decide)
        have d2 : ((2 : Int32) = 2) = True := eq_true rfl
        have d3 : ((2 : Int32) = 3) = False := eq_false (by decide)
        refine xgo0 63 ?_
        simp -implicitDefEqProofs only [xwp_2, xwp_0, xwp_1, xws_s, xdd_o, xld_0, xld_s, xs1_0, xs1_1, xs1_s, xs2_0, xs2_1, xs2_s, xlg_n, xlg_i, xlg_r, xlg_z, xlg_l, xf4_0, xf4_1, xf4_2, xf4_3, xgo_e, xcmp_eq, xcmp_ne, xcmp_lt, xcmp_ge, xcmp_gt, xcmp_le, xfg_0, xfg_1, xfg_2, xfg_3, xfg_4, xpop_0, xpop_s, xsw_n, xsw_c, xtb_n, xtb_c, xenp_n, xenp_i, xenp_r, xenp_z, xenp_l, xrep_0, xrep_s, Nat.reduceSub, true_and, and_true, cat_i, cat_r, Nat.reduceAdd, Nat.reduceLT, Nat.reduceLeDiff, Nat.reduceEqDiff, xnc, Int.reduceAdd, Int.reduceSub, Int.reduceNeg, Int.reduceLE, Int.reduceLT, Int.reduceToNat, ↓reduceIte, List.length_cons, List.length_nil, xlc0, xlc1, ite_10, i10, i01, i0_2, i0_3, i0_4, i0_6, i0_7, i0_8, i0_49, i0_10, or_true, true_or, or_false, false_or, not_false_eq_true, not_true_eq_false, xnt, xI_g, eq_self, xI_2, xJ_1, false_and, and_false, obM_t, rMi, vp_tn, tn_def, lgc, nI8, nI6, nI160, nI20, nI401, nI49, aM_6, aM_7, aM_8, aM_9, aM_10, aM_11, aM_12, aM_13, aM_14, aM_15, aM_16, aM_17, aM_18, aM_19, aM_20, aM_21, aM_22, aM_23, aM_24, aM_25, aM_26, aM_27, aM_28, aM_29, aM_30, aM_31, aM_38, aM_39, aM_40, aM_41, aM_42, aM_43, aM_44, aM_45, aM_46, aM_47, lM_6, lM_7, lM_8, lM_9, lM_10, lM_11, lM_12, lM_13, lM_14, lM_15, lM_16, lM_17, lM_18, lM_19, lM_20, lM_21, lM_22, lM_23, lM_24, lM_25, lM_26, lM_27, lM_28, lM_29, lM_30, lM_31, lM_38, lM_39, lM_40, lM_41, lM_42, lM_43, lM_44, lM_45, lM_46, lM_47, dX7_ahead_0, st_iload_n, dX7_ahead_1, st_bipush, dX7_ahead_3, st_idiv, dX7_ahead_4, dX7_ahead_5, st_ifCond, dX7_ahead_8, st_iconst, dX7_ahead_9, st_goto, dX7_ahead_12, dX7_ahead_13, dX7_ahead_14, st_if_icmp, dX7_ahead_17, dX7_ahead_18, dX7_ahead_21, dX7_ahead_22, st_iadd, dX7_ahead_23, st_istore_n, dX7_ahead_24, dX7_ahead_25, dX7_ahead_27, st_irem, dX7_ahead_28, dX7_ahead_29, dX7_ahead_30, dX7_ahead_33, dX7_ahead_34, dX7_ahead_37, dX7_ahead_38, dX7_ahead_39, dX7_ahead_42, dX7_ahead_43, dX7_ahead_46, dX7_ahead_47, dX7_ahead_48, st_istore, dX7_ahead_50, dX7_ahead_51, dX7_ahead_54, dX7_ahead_55, dX7_ahead_57, dX7_ahead_60, st_iload, dX7_ahead_62, dX7_ahead_65, dX7_ahead_67, dX7_ahead_69, dX7_ahead_72, dX7_ahead_73, st_ireturn, dX7_ahead_74, st_aload_n, dX7_ahead_75, st_getfield, fl_X7_29, dX7_ahead_78, dX7_ahead_80, dX7_ahead_81, st_imul, dX7_ahead_82, dX7_ahead_84, dX7_ahead_85, st_iaload, dX7_ahead_86, dX7_ahead_87, dX7_ahead_90, dX7_ahead_91, dX7_ahead_94, dX7_ahead_96, dX7_ahead_97, dX7_ahead_98, dX7_ahead_100, dX7_ahead_101, ofI_7, ofI_m1, ofJ_2, ofJ_1, ofI_0, ofJ_3, ofI_6, hp1, i7_0, d0, d1, d2, d3, e1, e2]
        simp only [true_implies, false_implies, and_true, true_and, not_true_eq_false, not_false_eq_true, e1, e2]
        have hA := ahI (r := rwM p 2) (c := clM p 2)
        simp only [hR, fX7_ahead_e, ahM]
        clear hR e1 e2
        generalize rwM p 2 = R at *
        generalize clM p 2 = C at *
        grind (splits := 40)
      · by_cases h3 : d = 3
        · subst h3
          have e1 : p / 7 + 0 = rwM p 3 := by unfold rwM; rw [if_neg (by decide), if_neg (by decide)]
          have e2 : xrem p 7 + -1 = clM p 3 := by unfold clM; rw [if_neg (by decide), if_pos rfl]
          have d0 : ((3 : Int32) = 0) = False := eq_false (by decide)
          have d1 : ((3 : Int32) = 1) = False := eq_false (by decide)
          have d2 : ((3 : Int32) = 2) = False := eq_false (by decide)
          have d3 : ((3 : Int32) = 3) = True := eq_true rfl
          refine xgo0 63 ?_
          simp -implicitDefEqProofs only [xwp_2, xwp_0, xwp_1, xws_s, xdd_o, xld_0, xld_s, xs1_0, xs1_1, xs1_s, xs2_0, xs2_1, xs2_s, xlg_n, xlg_i, xlg_r, xlg_z, xlg_l, xf4_0, xf4_1, xf4_2, xf4_3, xgo_e, xcmp_eq, xcmp_ne, xcmp_lt, xcmp_ge, xcmp_gt, xcmp_le, xfg_0, xfg_1, xfg_2, xfg_3, xfg_4, xpop_0, xpop_s, xsw_n, xsw_c, xtb_n, xtb_c, xenp_n, xenp_i, xenp_r, xenp_z, xenp_l, xrep_0, xrep_s, Nat.reduceSub, true_and, and_true, cat_i, cat_r, Nat.reduceAdd, Nat.reduceLT, Nat.reduceLeDiff, Nat.reduceEqDiff, xnc, Int.reduceAdd, Int.reduceSub, Int.reduceNeg, Int.reduceLE, Int.reduceLT, Int.reduceToNat, ↓reduceIte, List.length_cons, List.length_nil, xlc0, xlc1, ite_10, i10, i01, i0_2, i0_3, i0_4, i0_6, i0_7, i0_8, i0_49, i0_10, or_true, true_or, or_false, false_or, not_false_eq_true, not_true_eq_false, xnt, xI_g, eq_self, xI_2, xJ_1, false_and, and_false, obM_t, rMi, vp_tn, tn_def, lgc, nI8, nI6, nI160, nI20, nI401, nI49, aM_6, aM_7, aM_8, aM_9, aM_10, aM_11, aM_12, aM_13, aM_14, aM_15, aM_16, aM_17, aM_18, aM_19, aM_20, aM_21, aM_22, aM_23, aM_24, aM_25, aM_26, aM_27, aM_28, aM_29, aM_30, aM_31, aM_38, aM_39, aM_40, aM_41, aM_42, aM_43, aM_44, aM_45, aM_46, aM_47, lM_6, lM_7, lM_8, lM_9, lM_10, lM_11, lM_12, lM_13, lM_14, lM_15, lM_16, lM_17, lM_18, lM_19, lM_20, lM_21, lM_22, lM_23, lM_24, lM_25, lM_26, lM_27, lM_28, lM_29, lM_30, lM_31, lM_38, lM_39, lM_40, lM_41, lM_42, lM_43, lM_44, lM_45, lM_46, lM_47, dX7_ahead_0, st_iload_n, dX7_ahead_1, st_bipush, dX7_ahead_3, st_idiv, dX7_ahead_4, dX7_ahead_5, st_ifCond, dX7_ahead_8, st_iconst, dX7_ahead_9, st_goto, dX7_ahead_12, dX7_ahead_13, dX7_ahead_14, st_if_icmp, dX7_ahead_17, dX7_ahead_18, dX7_ahead_21, dX7_ahead_22, st_iadd, dX7_ahead_23, st_istore_n, dX7_ahead_24, dX7_ahead_25, dX7_ahead_27, st_irem, dX7_ahead_28, dX7_ahead_29, dX7_ahead_30, dX7_ahead_33, dX7_ahead_34, dX7_ahead_37, dX7_ahead_38, dX7_ahead_39, dX7_ahead_42, dX7_ahead_43, dX7_ahead_46, dX7_ahead_47, dX7_ahead_48, st_istore, dX7_ahead_50, dX7_ahead_51, dX7_ahead_54, dX7_ahead_55, dX7_ahead_57, dX7_ahead_60, st_iload, dX7_ahead_62, dX7_ahead_65, dX7_ahead_67, dX7_ahead_69, dX7_ahead_72, dX7_ahead_73, st_ireturn, dX7_ahead_74, st_aload_n, dX7_ahead_75, st_getfield, fl_X7_29, dX7_ahead_78, dX7_ahead_80, dX7_ahead_81, st_imul, dX7_ahead_82, dX7_ahead_84, dX7_ahead_85, st_iaload, dX7_ahead_86, dX7_ahead_87, dX7_ahead_90, dX7_ahead_91, dX7_ahead_94, dX7_ahead_96, dX7_ahead_97, dX7_ahead_98, dX7_ahead_100, dX7_ahead_101, ofI_7, ofI_m1, ofJ_2, ofJ_1, ofI_0, ofJ_3, ofI_6, hp1, i7_0, d0, d1, d2, d3, e1, e2]
          simp only [true_implies, false_implies, and_true, true_and, not_true_eq_false, not_false_eq_true, e1, e2]
          have hA := ahI (r := rwM p 3) (c := clM p 3)
          simp only [hR, fX7_ahead_e, ahM]
          clear hR e1 e2
          generalize rwM p 3 = R at *
          generalize clM p 3 = C at *
          grind (splits := 40)
        · have e1 : p / 7 + 0 = rwM p d := by unfold rwM; rw [if_neg h0, if_neg h2]
          have e2 : xrem p 7 + 0 = clM p d := by unfold clM; rw [if_neg h1, if_neg h3]
          have d0 : (d = 0) = False := eq_false h0
          have d1 : (d = 1) = False := eq_false h1
          have d2 : (d = 2) = False := eq_false h2
          have d3 : (d = 3) = False := eq_false h3
          refine xgo0 63 ?_
          simp -implicitDefEqProofs only [xwp_2, xwp_0, xwp_1, xws_s, xdd_o, xld_0, xld_s, xs1_0, xs1_1, xs1_s, xs2_0, xs2_1, xs2_s, xlg_n, xlg_i, xlg_r, xlg_z, xlg_l, xf4_0, xf4_1, xf4_2, xf4_3, xgo_e, xcmp_eq, xcmp_ne, xcmp_lt, xcmp_ge, xcmp_gt, xcmp_le, xfg_0, xfg_1, xfg_2, xfg_3, xfg_4, xpop_0, xpop_s, xsw_n, xsw_c, xtb_n, xtb_c, xenp_n, xenp_i, xenp_r, xenp_z, xenp_l, xrep_0, xrep_s, Nat.reduceSub, true_and, and_true, cat_i, cat_r, Nat.reduceAdd, Nat.reduceLT, Nat.reduceLeDiff, Nat.reduceEqDiff, xnc, Int.reduceAdd, Int.reduceSub, Int.reduceNeg, Int.reduceLE, Int.reduceLT, Int.reduceToNat, ↓reduceIte, List.length_cons, List.length_nil, xlc0, xlc1, ite_10, i10, i01, i0_2, i0_3, i0_4, i0_6, i0_7, i0_8, i0_49, i0_10, or_true, true_or, or_false, false_or, not_false_eq_true, not_true_eq_false, xnt, xI_g, eq_self, xI_2, xJ_1, false_and, and_false, obM_t, rMi, vp_tn, tn_def, lgc, nI8, nI6, nI160, nI20, nI401, nI49, aM_6, aM_7, aM_8, aM_9, aM_10, aM_11, aM_12, aM_13, aM_14, aM_15, aM_16, aM_17, aM_18, aM_19, aM_20, aM_21, aM_22, aM_23, aM_24, aM_25, aM_26, aM_27, aM_28, aM_29, aM_30, aM_31, aM_38, aM_39, aM_40, aM_41, aM_42, aM_43, aM_44, aM_45, aM_46, aM_47, lM_6, lM_7, lM_8, lM_9, lM_10, lM_11, lM_12, lM_13, lM_14, lM_15, lM_16, lM_17, lM_18, lM_19, lM_20, lM_21, lM_22, lM_23, lM_24, lM_25, lM_26, lM_27, lM_28, lM_29, lM_30, lM_31, lM_38, lM_39, lM_40, lM_41, lM_42, lM_43, lM_44, lM_45, lM_46, lM_47, dX7_ahead_0, st_iload_n, dX7_ahead_1, st_bipush, dX7_ahead_3, st_idiv, dX7_ahead_4, dX7_ahead_5, st_ifCond, dX7_ahead_8, st_iconst, dX7_ahead_9, st_goto, dX7_ahead_12, dX7_ahead_13, dX7_ahead_14, st_if_icmp, dX7_ahead_17, dX7_ahead_18, dX7_ahead_21, dX7_ahead_22, st_iadd, dX7_ahead_23, st_istore_n, dX7_ahead_24, dX7_ahead_25, dX7_ahead_27, st_irem, dX7_ahead_28, dX7_ahead_29, dX7_ahead_30, dX7_ahead_33, dX7_ahead_34, dX7_ahead_37, dX7_ahead_38, dX7_ahead_39, dX7_ahead_42, dX7_ahead_43, dX7_ahead_46, dX7_ahead_47, dX7_ahead_48, st_istore, dX7_ahead_50, dX7_ahead_51, dX7_ahead_54, dX7_ahead_55, dX7_ahead_57, dX7_ahead_60, st_iload, dX7_ahead_62, dX7_ahead_65, dX7_ahead_67, dX7_ahead_69, dX7_ahead_72, dX7_ahead_73, st_ireturn, dX7_ahead_74, st_aload_n, dX7_ahead_75, st_getfield, fl_X7_29, dX7_ahead_78, dX7_ahead_80, dX7_ahead_81, st_imul, dX7_ahead_82, dX7_ahead_84, dX7_ahead_85, st_iaload, dX7_ahead_86, dX7_ahead_87, dX7_ahead_90, dX7_ahead_91, dX7_ahead_94, dX7_ahead_96, dX7_ahead_97, dX7_ahead_98, dX7_ahead_100, dX7_ahead_101, ofI_7, ofI_m1, ofJ_2, ofJ_1, ofI_0, ofJ_3, ofI_6, hp1, i7_0, d0, d1, d2, d3, e1, e2]
          simp only [true_implies, false_implies, and_true, true_and, not_true_eq_false, not_false_eq_true, e1, e2]
          have hA := ahI (r := rwM p d) (c := clM p d)
          simp only [hR, fX7_ahead_e, ahM]
          clear hR e1 e2
          generalize rwM p d = R at *
          generalize clM p d = C at *
          grind (splits := 40)
theorem rX7_ahead : ∀ as σ, pX7_ahead as σ → ∃ K as', as = .ref K :: as' ∧ xob WM K 7 := by
  rintro as σ ⟨p, d, rfl, hpre⟩
  exact ⟨_, _, rfl, by first | exact hpre | exact hpre.1 | exact obT hpre | exact obT hpre.1 | exact obS hpre | exact obS hpre.1 | exact obM | exact ob6 | exact ob2 | exact ob0⟩
def trM (σ : xS) (w : Nat) (t : Int32) : Int32 := xrem (σ.1 14 w + (if t = 2 then 2 else if t = 0 then (if σ.1 17 w = 0 then 3 else 1) else (if σ.1 17 w = 0 then 1 else 3))) 4
def tkM (σ : xS) (w f : Nat) : Prop := ¬ (σ.1 11 w = 1 ∨ σ.1 11 w = 2 ∨ σ.1 11 w = 5) ∧ (¬ σ.1 11 w = 6 ∨ σ.1 41 w < σ.1 41 f)
def tkMb (σ : xS) (w f : Nat) : Bool := decide (¬ (σ.1 11 w = 1 ∨ σ.1 11 w = 2 ∨ σ.1 11 w = 5) ∧ (¬ σ.1 11 w = 6 ∨ σ.1 41 w < σ.1 41 f))
def gvMb (σ : xS) (w : Nat) : Bool := decide (σ.1 11 w = 0 ∨ σ.1 11 w = 1 ∨ σ.1 11 w = 5)
def toM (σ : xS) (w f : Nat) : xS := xI (xI (xI σ 15 w (σ.1 41 f)) 16 w (σ.1 42 f)) 17 w (if σ.1 11 w = 4 then 1 - σ.1 43 f else σ.1 43 f)
def pX7_turns (as : List Value) (σ : xS) : Prop := ∃ (x : Int32) (t : Int32), as = [.ref 0, .int x, .int t] ∧ ((0 ≤ x) ∧ (tn x < 6))
def fX7_turns (as : List Value) (σ : xS) : Option Value × xS := match as with
  | [.ref 0, .int x, .int t] => (some (.int (trM σ (tn x) t)), σ)
  | _ => (none, σ)
theorem pX7_turns_e {x : Int32} {t : Int32} {σ : xS} : pX7_turns [.ref 0, .int x, .int t] σ = ((0 ≤ x) ∧ (tn x < 6)) := propext ⟨fun h => by obtain ⟨x, t, e, h⟩ := h; cases e; exact h, fun h => ⟨x, t, rfl, h⟩⟩
theorem fX7_turns_e {x : Int32} {t : Int32} {σ : xS} : fX7_turns [.ref 0, .int x, .int t] σ = (some (.int (trM σ (tn x) t)), σ) := rfl
def calX7_turns : List (Nat × xCall) := []
set_option maxHeartbeats 4000000 in
set_option maxRecDepth 100000 in
theorem mX7_turns : xMet WM yX7_turns cX7_turns 4 (some .int) 1 pX7_turns fX7_turns := by
  refine xMet_of (fld := xlk fldX7) (cal := xlk calX7_turns) (ks := xlk []) (gs := xlk []) (ro := fun _ => none) 0 (by decide) WM_nd rfl fldX7_ok xKs_nil xGs_nil (Or.inr rfl) xcal_nil ?_ ?_
  · rintro av σ ⟨x, t, rfl, hpre⟩
    exact Nat.le_of_ble_eq_true rfl
  rintro av σ ⟨x, t, rfl, ⟨hp1, hp2⟩⟩ Rt hR
  refine xgo0 34 ?_
  simp -implicitDefEqProofs only [xwp_2, xwp_0, xwp_1, xws_s, xdd_o, xld_0, xld_s, xs1_0, xs1_1, xs1_s, xs2_0, xs2_1, xs2_s, xlg_n, xlg_i, xlg_r, xlg_z, xlg_l, xf4_0, xf4_1, xf4_2, xf4_3, xgo_e, xcmp_eq, xcmp_ne, xcmp_lt, xcmp_ge, xcmp_gt, xcmp_le, xfg_0, xfg_1, xfg_2, xfg_3, xfg_4, xpop_0, xpop_s, xsw_n, xsw_c, xtb_n, xtb_c, xenp_n, xenp_i, xenp_r, xenp_z, xenp_l, xrep_0, xrep_s, Nat.reduceSub, true_and, and_true, cat_i, cat_r, Nat.reduceAdd, Nat.reduceLT, Nat.reduceLeDiff, Nat.reduceEqDiff, xnc, Int.reduceAdd, Int.reduceSub, Int.reduceNeg, Int.reduceLE, Int.reduceLT, Int.reduceToNat, ↓reduceIte, List.length_cons, List.length_nil, xlc0, xlc1, ite_10, i10, i01, i0_2, i0_3, i0_4, i0_6, i0_7, i0_8, i0_49, i0_10, or_true, true_or, or_false, false_or, not_false_eq_true, not_true_eq_false, xnt, xI_g, eq_self, xI_2, xJ_1, false_and, and_false, obM_t, rMi, vp_tn, tn_def, lgc, nI8, nI6, nI160, nI20, nI401, nI49, aM_6, aM_7, aM_8, aM_9, aM_10, aM_11, aM_12, aM_13, aM_14, aM_15, aM_16, aM_17, aM_18, aM_19, aM_20, aM_21, aM_22, aM_23, aM_24, aM_25, aM_26, aM_27, aM_28, aM_29, aM_30, aM_31, aM_38, aM_39, aM_40, aM_41, aM_42, aM_43, aM_44, aM_45, aM_46, aM_47, lM_6, lM_7, lM_8, lM_9, lM_10, lM_11, lM_12, lM_13, lM_14, lM_15, lM_16, lM_17, lM_18, lM_19, lM_20, lM_21, lM_22, lM_23, lM_24, lM_25, lM_26, lM_27, lM_28, lM_29, lM_30, lM_31, lM_38, lM_39, lM_40, lM_41, lM_42, lM_43, lM_44, lM_45, lM_46, lM_47, dX7_turns_0, st_iload_n, dX7_turns_1, st_iconst, dX7_turns_2, st_if_icmp, dX7_turns_5, dX7_turns_6, st_goto, dX7_turns_9, dX7_turns_10, st_ifCond, dX7_turns_13, dX7_turns_14, dX7_turns_17, dX7_turns_18, st_aload_n, dX7_turns_19, st_getfield, fl_X7_50, dX7_turns_22, dX7_turns_23, st_iaload, dX7_turns_24, dX7_turns_27, dX7_turns_28, dX7_turns_31, dX7_turns_32, dX7_turns_35, dX7_turns_36, dX7_turns_39, dX7_turns_40, st_istore_n, dX7_turns_41, dX7_turns_42, fl_X7_41, dX7_turns_45, dX7_turns_46, dX7_turns_47, dX7_turns_48, st_iadd, dX7_turns_49, dX7_turns_50, st_irem, dX7_turns_51, st_ireturn, ofJ_2, ofJ_1, ofI_0, ofJ_3, ofI_4, hp1, hp2, i4_0']
  simp only [hR, fX7_turns_e, trM]
  clear hR
  grind (splits := 40)
theorem rX7_turns : ∀ as σ, pX7_turns as σ → ∃ K as', as = .ref K :: as' ∧ xob WM K 7 := by
  rintro as σ ⟨x, t, rfl, hpre⟩
  exact ⟨_, _, rfl, by first | exact hpre | exact hpre.1 | exact obT hpre | exact obT hpre.1 | exact obS hpre | exact obS hpre.1 | exact obM | exact ob6 | exact ob2 | exact ob0⟩
def pX7_takes (as : List Value) (σ : xS) : Prop := ∃ (x : Int32) (f : Int32), as = [.ref 0, .int x, .int f] ∧ ((0 ≤ x) ∧ (tn x < 6) ∧ (0 ≤ f) ∧ (tn f < 6))
def fX7_takes (as : List Value) (σ : xS) : Option Value × xS := match as with
  | [.ref 0, .int x, .int f] => (some (.int (if tkMb σ (tn x) (tn f) = true then 1 else 0)), σ)
  | _ => (none, σ)
theorem pX7_takes_e {x : Int32} {f : Int32} {σ : xS} : pX7_takes [.ref 0, .int x, .int f] σ = ((0 ≤ x) ∧ (tn x < 6) ∧ (0 ≤ f) ∧ (tn f < 6)) := propext ⟨fun h => by obtain ⟨x, f, e, h⟩ := h; cases e; exact h, fun h => ⟨x, f, rfl, h⟩⟩
theorem fX7_takes_e {x : Int32} {f : Int32} {σ : xS} : fX7_takes [.ref 0, .int x, .int f] σ = (some (.int (if tkMb σ (tn x) (tn f) = true then 1 else 0)), σ) := rfl
def calX7_takes : List (Nat × xCall) := []
set_option maxHeartbeats 4000000 in
set_option maxRecDepth 100000 in
theorem mX7_takes : xMet WM yX7_takes cX7_takes 4 (some .boolean) 1 pX7_takes fX7_takes := by
  refine xMet_of (fld := xlk fldX7) (cal := xlk calX7_takes) (ks := xlk []) (gs := xlk []) (ro := fun _ => none) 1 (by decide) WM_nd rfl fldX7_ok xKs_nil xGs_nil (Or.inr rfl) xcal_nil ?_ ?_
  · rintro av σ ⟨x, f, rfl, hpre⟩
    exact Nat.le_of_ble_eq_true rfl
  rintro av σ ⟨x, f, rfl, ⟨hp1, hp2, hp3, hp4⟩⟩ Rt hR
  refine xgo0 34 ?_
  simp -implicitDefEqProofs only [xwp_2, xwp_0, xwp_1, xws_s, xdd_o, xld_0, xld_s, xs1_0, xs1_1, xs1_s, xs2_0, xs2_1, xs2_s, xlg_n, xlg_i, xlg_r, xlg_z, xlg_l, xf4_0, xf4_1, xf4_2, xf4_3, xgo_e, xcmp_eq, xcmp_ne, xcmp_lt, xcmp_ge, xcmp_gt, xcmp_le, xfg_0, xfg_1, xfg_2, xfg_3, xfg_4, xpop_0, xpop_s, xsw_n, xsw_c, xtb_n, xtb_c, xenp_n, xenp_i, xenp_r, xenp_z, xenp_l, xrep_0, xrep_s, Nat.reduceSub, true_and, and_true, cat_i, cat_r, Nat.reduceAdd, Nat.reduceLT, Nat.reduceLeDiff, Nat.reduceEqDiff, xnc, Int.reduceAdd, Int.reduceSub, Int.reduceNeg, Int.reduceLE, Int.reduceLT, Int.reduceToNat, ↓reduceIte, List.length_cons, List.length_nil, xlc0, xlc1, ite_10, i10, i01, i0_2, i0_3, i0_4, i0_6, i0_7, i0_8, i0_49, i0_10, or_true, true_or, or_false, false_or, not_false_eq_true, not_true_eq_false, xnt, xI_g, eq_self, xI_2, xJ_1, false_and, and_false, obM_t, rMi, vp_tn, tn_def, lgc, nI8, nI6, nI160, nI20, nI401, nI49, aM_6, aM_7, aM_8, aM_9, aM_10, aM_11, aM_12, aM_13, aM_14, aM_15, aM_16, aM_17, aM_18, aM_19, aM_20, aM_21, aM_22, aM_23, aM_24, aM_25, aM_26, aM_27, aM_28, aM_29, aM_30, aM_31, aM_38, aM_39, aM_40, aM_41, aM_42, aM_43, aM_44, aM_45, aM_46, aM_47, lM_6, lM_7, lM_8, lM_9, lM_10, lM_11, lM_12, lM_13, lM_14, lM_15, lM_16, lM_17, lM_18, lM_19, lM_20, lM_21, lM_22, lM_23, lM_24, lM_25, lM_26, lM_27, lM_28, lM_29, lM_30, lM_31, lM_38, lM_39, lM_40, lM_41, lM_42, lM_43, lM_44, lM_45, lM_46, lM_47, dX7_takes_0, st_aload_n, dX7_takes_1, st_getfield, fl_X7_32, dX7_takes_4, st_iload_n, dX7_takes_5, st_iaload, dX7_takes_6, st_istore_n, dX7_takes_7, dX7_takes_8, st_iconst, dX7_takes_9, st_if_icmp, dX7_takes_12, dX7_takes_13, dX7_takes_14, dX7_takes_17, dX7_takes_18, dX7_takes_19, dX7_takes_22, dX7_takes_23, st_ireturn, dX7_takes_24, dX7_takes_25, st_bipush, dX7_takes_27, dX7_takes_30, dX7_takes_31, fl_X7_105, dX7_takes_34, dX7_takes_35, dX7_takes_36, dX7_takes_37, dX7_takes_40, dX7_takes_41, dX7_takes_42, dX7_takes_45, dX7_takes_46, st_goto, dX7_takes_49, dX7_takes_50, ofJ_1, ofJ_2, ofI_5, ofI_0, ofI_6, hp1, hp2, hp3, hp4]
  have e1 : tkMb σ (tn x) (tn f) = true ↔ (¬ (σ.1 11 (tn x) = 1 ∨ σ.1 11 (tn x) = 2 ∨ σ.1 11 (tn x) = 5) ∧ (¬ σ.1 11 (tn x) = 6 ∨ σ.1 41 (tn x) < σ.1 41 (tn f))) := decide_eq_true_iff
  simp only [hR, fX7_takes_e]
  clear hR
  generalize tkMb σ (tn x) (tn f) = u at *
  grind (splits := 40)
theorem rX7_takes : ∀ as σ, pX7_takes as σ → ∃ K as', as = .ref K :: as' ∧ xob WM K 7 := by
  rintro as σ ⟨x, f, rfl, hpre⟩
  exact ⟨_, _, rfl, by first | exact hpre | exact hpre.1 | exact obT hpre | exact obT hpre.1 | exact obS hpre | exact obS hpre.1 | exact obM | exact ob6 | exact ob2 | exact ob0⟩
def pX7_gives (as : List Value) (σ : xS) : Prop := ∃ (x : Int32), as = [.ref 0, .int x] ∧ ((0 ≤ x) ∧ (tn x < 6))
def fX7_gives (as : List Value) (σ : xS) : Option Value × xS := match as with
  | [.ref 0, .int x] => (some (.int (if gvMb σ (tn x) = true then 1 else 0)), σ)
  | _ => (none, σ)
theorem pX7_gives_e {x : Int32} {σ : xS} : pX7_gives [.ref 0, .int x] σ = ((0 ≤ x) ∧ (tn x < 6)) := propext ⟨fun h => by obtain ⟨x, e, h⟩ := h; cases e; exact h, fun h => ⟨x, rfl, h⟩⟩
theorem fX7_gives_e {x : Int32} {σ : xS} : fX7_gives [.ref 0, .int x] σ = (some (.int (if gvMb σ (tn x) = true then 1 else 0)), σ) := rfl
def calX7_gives : List (Nat × xCall) := []
set_option maxHeartbeats 4000000 in
set_option maxRecDepth 100000 in
theorem mX7_gives : xMet WM yX7_gives cX7_gives 2 (some .boolean) 1 pX7_gives fX7_gives := by
  refine xMet_of (fld := xlk fldX7) (cal := xlk calX7_gives) (ks := xlk []) (gs := xlk []) (ro := fun _ => none) 1 (by decide) WM_nd rfl fldX7_ok xKs_nil xGs_nil (Or.inr rfl) xcal_nil ?_ ?_
  · rintro av σ ⟨x, rfl, hpre⟩
    exact Nat.le_of_ble_eq_true rfl
  rintro av σ ⟨x, rfl, ⟨hp1, hp2⟩⟩ Rt hR
  refine xgo0 23 ?_
  simp -implicitDefEqProofs only [xwp_2, xwp_0, xwp_1, xws_s, xdd_o, xld_0, xld_s, xs1_0, xs1_1, xs1_s, xs2_0, xs2_1, xs2_s, xlg_n, xlg_i, xlg_r, xlg_z, xlg_l, xf4_0, xf4_1, xf4_2, xf4_3, xgo_e, xcmp_eq, xcmp_ne, xcmp_lt, xcmp_ge, xcmp_gt, xcmp_le, xfg_0, xfg_1, xfg_2, xfg_3, xfg_4, xpop_0, xpop_s, xsw_n, xsw_c, xtb_n, xtb_c, xenp_n, xenp_i, xenp_r, xenp_z, xenp_l, xrep_0, xrep_s, Nat.reduceSub, true_and, and_true, cat_i, cat_r, Nat.reduceAdd, Nat.reduceLT, Nat.reduceLeDiff, Nat.reduceEqDiff, xnc, Int.reduceAdd, Int.reduceSub, Int.reduceNeg, Int.reduceLE, Int.reduceLT, Int.reduceToNat, ↓reduceIte, List.length_cons, List.length_nil, xlc0, xlc1, ite_10, i10, i01, i0_2, i0_3, i0_4, i0_6, i0_7, i0_8, i0_49, i0_10, or_true, true_or, or_false, false_or, not_false_eq_true, not_true_eq_false, xnt, xI_g, eq_self, xI_2, xJ_1, false_and, and_false, obM_t, rMi, vp_tn, tn_def, lgc, nI8, nI6, nI160, nI20, nI401, nI49, aM_6, aM_7, aM_8, aM_9, aM_10, aM_11, aM_12, aM_13, aM_14, aM_15, aM_16, aM_17, aM_18, aM_19, aM_20, aM_21, aM_22, aM_23, aM_24, aM_25, aM_26, aM_27, aM_28, aM_29, aM_30, aM_31, aM_38, aM_39, aM_40, aM_41, aM_42, aM_43, aM_44, aM_45, aM_46, aM_47, lM_6, lM_7, lM_8, lM_9, lM_10, lM_11, lM_12, lM_13, lM_14, lM_15, lM_16, lM_17, lM_18, lM_19, lM_20, lM_21, lM_22, lM_23, lM_24, lM_25, lM_26, lM_27, lM_28, lM_29, lM_30, lM_31, lM_38, lM_39, lM_40, lM_41, lM_42, lM_43, lM_44, lM_45, lM_46, lM_47, dX7_gives_0, st_aload_n, dX7_gives_1, st_getfield, fl_X7_32, dX7_gives_4, st_iload_n, dX7_gives_5, st_iaload, dX7_gives_6, st_ifCond, dX7_gives_9, dX7_gives_10, dX7_gives_13, dX7_gives_14, dX7_gives_15, st_iconst, dX7_gives_16, st_if_icmp, dX7_gives_19, dX7_gives_20, dX7_gives_23, dX7_gives_24, dX7_gives_25, dX7_gives_26, dX7_gives_29, dX7_gives_30, st_goto, dX7_gives_33, dX7_gives_34, st_ireturn, ofJ_1, ofI_5, ofI_0, hp1, hp2]
  have e1 : gvMb σ (tn x) = true ↔ (σ.1 11 (tn x) = 0 ∨ σ.1 11 (tn x) = 1 ∨ σ.1 11 (tn x) = 5) := decide_eq_true_iff
  simp only [hR, fX7_gives_e]
  clear hR
  generalize gvMb σ (tn x) = u at *
  grind (splits := 40)
theorem rX7_gives : ∀ as σ, pX7_gives as σ → ∃ K as', as = .ref K :: as' ∧ xob WM K 7 := by
  rintro as σ ⟨x, rfl, hpre⟩
  exact ⟨_, _, rfl, by first | exact hpre | exact hpre.1 | exact obT hpre | exact obT hpre.1 | exact obS hpre | exact obS hpre.1 | exact obM | exact ob6 | exact ob2 | exact ob0⟩
def pX7_takesOn (as : List Value) (σ : xS) : Prop := ∃ (x : Int32) (f : Int32), as = [.ref 0, .int x, .int f] ∧ ((0 ≤ x) ∧ (tn x < 6) ∧ (0 ≤ f) ∧ (tn f < 6))
def fX7_takesOn (as : List Value) (σ : xS) : Option Value × xS := match as with
  | [.ref 0, .int x, .int f] => (none, toM σ (tn x) (tn f))
  | _ => (none, σ)
theorem pX7_takesOn_e {x : Int32} {f : Int32} {σ : xS} : pX7_takesOn [.ref 0, .int x, .int f] σ = ((0 ≤ x) ∧ (tn x < 6) ∧ (0 ≤ f) ∧ (tn f < 6)) := propext ⟨fun h => by obtain ⟨x, f, e, h⟩ := h; cases e; exact h, fun h => ⟨x, f, rfl, h⟩⟩
theorem fX7_takesOn_e {x : Int32} {f : Int32} {σ : xS} : fX7_takesOn [.ref 0, .int x, .int f] σ = (none, toM σ (tn x) (tn f)) := rfl
def calX7_takesOn : List (Nat × xCall) := []
set_option maxHeartbeats 4000000 in
set_option maxRecDepth 100000 in
theorem mX7_takesOn : xMet WM yX7_takesOn cX7_takesOn 3 none 1 pX7_takesOn fX7_takesOn := by
  refine xMet_of (fld := xlk fldX7) (cal := xlk calX7_takesOn) (ks := xlk []) (gs := xlk []) (ro := fun _ => none) 4 (by decide) WM_nd rfl fldX7_ok xKs_nil xGs_nil (Or.inr rfl) xcal_nil ?_ ?_
  · rintro av σ ⟨x, f, rfl, hpre⟩
    exact Nat.le_of_ble_eq_true rfl
  rintro av σ ⟨x, f, rfl, ⟨hp1, hp2, hp3, hp4⟩⟩ Rt hR
  refine xgo0 40 ?_
  simp -implicitDefEqProofs only [xwp_2, xwp_0, xwp_1, xws_s, xdd_o, xld_0, xld_s, xs1_0, xs1_1, xs1_s, xs2_0, xs2_1, xs2_s, xlg_n, xlg_i, xlg_r, xlg_z, xlg_l, xf4_0, xf4_1, xf4_2, xf4_3, xgo_e, xcmp_eq, xcmp_ne, xcmp_lt, xcmp_ge, xcmp_gt, xcmp_le, xfg_0, xfg_1, xfg_2, xfg_3, xfg_4, xpop_0, xpop_s, xsw_n, xsw_c, xtb_n, xtb_c, xenp_n, xenp_i, xenp_r, xenp_z, xenp_l, xrep_0, xrep_s, Nat.reduceSub, true_and, and_true, cat_i, cat_r, Nat.reduceAdd, Nat.reduceLT, Nat.reduceLeDiff, Nat.reduceEqDiff, xnc, Int.reduceAdd, Int.reduceSub, Int.reduceNeg, Int.reduceLE, Int.reduceLT, Int.reduceToNat, ↓reduceIte, List.length_cons, List.length_nil, xlc0, xlc1, ite_10, i10, i01, i0_2, i0_3, i0_4, i0_6, i0_7, i0_8, i0_49, i0_10, or_true, true_or, or_false, false_or, not_false_eq_true, not_true_eq_false, xnt, xI_g, eq_self, xI_2, xJ_1, false_and, and_false, obM_t, rMi, vp_tn, tn_def, lgc, nI8, nI6, nI160, nI20, nI401, nI49, aM_6, aM_7, aM_8, aM_9, aM_10, aM_11, aM_12, aM_13, aM_14, aM_15, aM_16, aM_17, aM_18, aM_19, aM_20, aM_21, aM_22, aM_23, aM_24, aM_25, aM_26, aM_27, aM_28, aM_29, aM_30, aM_31, aM_38, aM_39, aM_40, aM_41, aM_42, aM_43, aM_44, aM_45, aM_46, aM_47, lM_6, lM_7, lM_8, lM_9, lM_10, lM_11, lM_12, lM_13, lM_14, lM_15, lM_16, lM_17, lM_18, lM_19, lM_20, lM_21, lM_22, lM_23, lM_24, lM_25, lM_26, lM_27, lM_28, lM_29, lM_30, lM_31, lM_38, lM_39, lM_40, lM_41, lM_42, lM_43, lM_44, lM_45, lM_46, lM_47, dX7_takesOn_0, st_aload_n, dX7_takesOn_1, st_getfield, fl_X7_44, dX7_takesOn_4, st_iload_n, dX7_takesOn_5, dX7_takesOn_6, fl_X7_105, dX7_takesOn_9, dX7_takesOn_10, st_iaload, dX7_takesOn_11, st_iastore, dX7_takesOn_12, dX7_takesOn_13, fl_X7_47, dX7_takesOn_16, dX7_takesOn_17, dX7_takesOn_18, fl_X7_108, dX7_takesOn_21, dX7_takesOn_22, dX7_takesOn_23, dX7_takesOn_24, dX7_takesOn_25, fl_X7_50, dX7_takesOn_28, dX7_takesOn_29, dX7_takesOn_30, fl_X7_32, dX7_takesOn_33, dX7_takesOn_34, dX7_takesOn_35, st_iconst, dX7_takesOn_36, st_if_icmp, dX7_takesOn_39, dX7_takesOn_40, dX7_takesOn_41, fl_X7_111, dX7_takesOn_44, dX7_takesOn_45, dX7_takesOn_46, st_isub, dX7_takesOn_47, st_goto, dX7_takesOn_50, dX7_takesOn_51, dX7_takesOn_54, dX7_takesOn_55, dX7_takesOn_56, dX7_takesOn_57, st_return_, ofI_4, ofJ_1, hp1, hp2, hp3, hp4]
  simp only [hR, fX7_takesOn_e, toM]
  clear hR
  grind (splits := 40)
theorem rX7_takesOn : ∀ as σ, pX7_takesOn as σ → ∃ K as', as = .ref K :: as' ∧ xob WM K 7 := by
  rintro as σ ⟨x, f, rfl, hpre⟩
  exact ⟨_, _, rfl, by first | exact hpre | exact hpre.1 | exact obT hpre | exact obT hpre.1 | exact obS hpre | exact obS hpre.1 | exact obM | exact ob6 | exact ob2 | exact ob0⟩
def bdM (σ : xS) (b : Int32) : xS := if σ.1 0 48 < 20 then xI (xI σ 47 (tn (σ.1 0 48)) b) 0 48 (σ.1 0 48 + 1) else xI σ 0 48 (σ.1 0 48 + 1)
def pX7_body (as : List Value) (σ : xS) : Prop := ∃ (b : Int32), as = [.ref 0, .int b] ∧ (0 ≤ σ.1 0 48)
def fX7_body (as : List Value) (σ : xS) : Option Value × xS := match as with
  | [.ref 0, .int b] => (none, bdM σ b)
  | _ => (none, σ)
theorem pX7_body_e {b : Int32} {σ : xS} : pX7_body [.ref 0, .int b] σ = (0 ≤ σ.1 0 48) := propext ⟨fun h => by obtain ⟨b, e, h⟩ := h; cases e; exact h, fun h => ⟨b, rfl, h⟩⟩
theorem fX7_body_e {b : Int32} {σ : xS} : fX7_body [.ref 0, .int b] σ = (none, bdM σ b) := rfl
def calX7_body : List (Nat × xCall) := []
set_option maxHeartbeats 4000000 in
set_option maxRecDepth 100000 in
theorem mX7_body : xMet WM yX7_body cX7_body 2 none 1 pX7_body fX7_body := by
  refine xMet_of (fld := xlk fldX7) (cal := xlk calX7_body) (ks := xlk []) (gs := xlk []) (ro := fun _ => none) 4 (by decide) WM_nd rfl fldX7_ok xKs_nil xGs_nil (Or.inr rfl) xcal_nil ?_ ?_
  · rintro av σ ⟨b, rfl, hpre⟩
    exact Nat.le_of_ble_eq_true rfl
  rintro av σ ⟨b, rfl, hp1⟩ Rt hR
  have h20 : ∀ i, 0 ≤ i ∧ i < 20 → tn i < 20 := fun i => lt20
  refine xgo0 19 ?_
  simp -implicitDefEqProofs only [xwp_2, xwp_0, xwp_1, xws_s, xdd_o, xld_0, xld_s, xs1_0, xs1_1, xs1_s, xs2_0, xs2_1, xs2_s, xlg_n, xlg_i, xlg_r, xlg_z, xlg_l, xf4_0, xf4_1, xf4_2, xf4_3, xgo_e, xcmp_eq, xcmp_ne, xcmp_lt, xcmp_ge, xcmp_gt, xcmp_le, xfg_0, xfg_1, xfg_2, xfg_3, xfg_4, xpop_0, xpop_s, xsw_n, xsw_c, xtb_n, xtb_c, xenp_n, xenp_i, xenp_r, xenp_z, xenp_l, xrep_0, xrep_s, Nat.reduceSub, true_and, and_true, cat_i, cat_r, Nat.reduceAdd, Nat.reduceLT, Nat.reduceLeDiff, Nat.reduceEqDiff, xnc, Int.reduceAdd, Int.reduceSub, Int.reduceNeg, Int.reduceLE, Int.reduceLT, Int.reduceToNat, ↓reduceIte, List.length_cons, List.length_nil, xlc0, xlc1, ite_10, i10, i01, i0_2, i0_3, i0_4, i0_6, i0_7, i0_8, i0_49, i0_10, or_true, true_or, or_false, false_or, not_false_eq_true, not_true_eq_false, xnt, xI_g, eq_self, xI_2, xJ_1, false_and, and_false, obM_t, rMi, vp_tn, tn_def, lgc, nI8, nI6, nI160, nI20, nI401, nI49, aM_6, aM_7, aM_8, aM_9, aM_10, aM_11, aM_12, aM_13, aM_14, aM_15, aM_16, aM_17, aM_18, aM_19, aM_20, aM_21, aM_22, aM_23, aM_24, aM_25, aM_26, aM_27, aM_28, aM_29, aM_30, aM_31, aM_38, aM_39, aM_40, aM_41, aM_42, aM_43, aM_44, aM_45, aM_46, aM_47, lM_6, lM_7, lM_8, lM_9, lM_10, lM_11, lM_12, lM_13, lM_14, lM_15, lM_16, lM_17, lM_18, lM_19, lM_20, lM_21, lM_22, lM_23, lM_24, lM_25, lM_26, lM_27, lM_28, lM_29, lM_30, lM_31, lM_38, lM_39, lM_40, lM_41, lM_42, lM_43, lM_44, lM_45, lM_46, lM_47, dX7_body_0, st_aload_n, dX7_body_1, st_getfield, fl_X7_330, dX7_body_4, st_bipush, dX7_body_6, st_if_icmp, dX7_body_9, dX7_body_10, fl_X7_123, dX7_body_13, dX7_body_14, dX7_body_17, st_iload_n, dX7_body_18, st_iastore, dX7_body_19, dX7_body_20, st_dup, dX7_body_21, dX7_body_24, st_iconst, dX7_body_25, st_iadd, dX7_body_26, st_putfield, dX7_body_29, st_return_, ofI_20, ofJ_1, hp1]
  simp only [hR, fX7_body_e, bdM]
  clear hR
  grind (splits := 40)
theorem rX7_body : ∀ as σ, pX7_body as σ → ∃ K as', as = .ref K :: as' ∧ xob WM K 7 := by
  rintro as σ ⟨b, rfl, hpre⟩
  exact ⟨_, _, rfl, by first | exact hpre | exact hpre.1 | exact obT hpre | exact obT hpre.1 | exact obS hpre | exact obS hpre.1 | exact obM | exact ob6 | exact ob2 | exact ob0⟩
