/-- one more walker -/
def adM (σ : xS) (k p d g a : Int32) : xS := xI (xI (xI (xI (xI (xI (xI (xI σ 11 (tn (σ.1 0 1)) k) 13 (tn (σ.1 0 1)) p) 14 (tn (σ.1 0 1)) d) 15 (tn (σ.1 0 1)) g) 16 (tn (σ.1 0 1)) 0) 17 (tn (σ.1 0 1)) 0) 12 (tn (σ.1 0 1)) a) 0 1 (σ.1 0 1 + 1)
theorem lt6t {x : Int32} (h0 : 0 ≤ x) (h : x < 6) : tn x < 6 := tn6 ⟨h0, h⟩ (Int32.le_refl 6)
theorem tn49 {x : Int32} (h : 0 ≤ x ∧ x < 49) : tn x < 49 := by
  have h1 : x.toInt < 49 := by simpa using Int32.lt_iff_toInt_lt.mp h.2
  show x.toInt.toNat < 49
  omega
def iwlM (σ : xS) (p : Int32) : Int32 × xS := if 0 ≤ p ∧ p < 49 then (σ.1 10 (tn p), σ) else noM σ (-5)
def teaM (σ : xS) (x g : Int32) : Int32 × xS := if ¬ (0 ≤ x ∧ x < σ.1 0 1) ∨ ¬ (0 ≤ g ∧ g < σ.1 0 0) then noM σ (-1) else (σ.1 15 (tn x), xI (xI σ 15 (tn x) g) 16 (tn x) 0)
def seeM (σ : xS) (v : Int32) : Int32 × xS := (σ.1 0 4, xI σ 0 4 v)
def hldM (σ : xS) (s : Int32) : Int32 := if ¬ (0 ≤ s ∧ s < 8) then -1 else if σ.1 23 (tn s) = 0 then -1 else if σ.1 23 (tn s) = 1 then 100 + σ.1 24 (tn s) else σ.1 26 (tn s)
def showM (σ : xS) (s x : Int32) : Int32 × xS := if ¬ (0 ≤ s ∧ s < 8) ∨ (¬ x = -1 ∧ ¬ (0 ≤ x ∧ x < σ.1 0 1)) then noM σ (-1) else ((if x = -1 then 0 else 1), xI (xI σ 23 (tn s) (if x = -1 then 0 else 2)) 26 (tn s) x)
def traM (σ : xS) (i : Int32) : Int32 := if 0 ≤ i ∧ i < 20 ∧ i < σ.1 0 48 then σ.1 47 (tn i) else -1
def beaM (σ : xS) (n : Int32) : Int32 × xS := if 1 ≤ n ∧ n ≤ 99 then (mbM (tn n) σ, goesM σ n) else noM σ (-6)
def pX7_adds (as : List Value) (σ : xS) : Prop := ∃ (k : Int32) (p : Int32) (d : Int32) (g : Int32) (a : Int32), as = [.ref 0, .int k, .int p, .int d, .int g, .int a] ∧ ((0 ≤ σ.1 0 1) ∧ (σ.1 0 1 < 6))
def fX7_adds (as : List Value) (σ : xS) : Option Value × xS := match as with
  | [.ref 0, .int k, .int p, .int d, .int g, .int a] => (some (.int (σ.1 0 1)), adM σ k p d g a)
  | _ => (none, σ)
theorem pX7_adds_e {k : Int32} {p : Int32} {d : Int32} {g : Int32} {a : Int32} {σ : xS} : pX7_adds [.ref 0, .int k, .int p, .int d, .int g, .int a] σ = ((0 ≤ σ.1 0 1) ∧ (σ.1 0 1 < 6)) := propext ⟨fun h => by obtain ⟨k, p, d, g, a, e, h⟩ := h; cases e; exact h, fun h => ⟨k, p, d, g, a, rfl, h⟩⟩
theorem fX7_adds_e {k : Int32} {p : Int32} {d : Int32} {g : Int32} {a : Int32} {σ : xS} : fX7_adds [.ref 0, .int k, .int p, .int d, .int g, .int a] σ = (some (.int (σ.1 0 1)), adM σ k p d g a) := rfl
def calX7_adds : List (Nat × xCall) := []
set_option maxHeartbeats 4000000 in
set_option maxRecDepth 100000 in
theorem mX7_adds : xMet WM yX7_adds cX7_adds 6 (some .int) 1 pX7_adds fX7_adds := by
  refine xMet_of (fld := xlk fldX7) (cal := xlk calX7_adds) (ks := xlk []) (gs := xlk []) (ro := fun _ => none) 0 (by decide) WM_nd rfl fldX7_ok xKs_nil xGs_nil (Or.inr rfl) xcal_nil ?_ ?_
  · rintro av σ ⟨k, p, d, g, a, rfl, hpre⟩
    exact Nat.le_of_ble_eq_true rfl
  rintro av σ ⟨k, p, d, g, a, rfl, ⟨hp1, hp2⟩⟩ Rt hR
  have h6 := lt6t hp1 hp2
  refine xgo0 52 ?_
  simp -implicitDefEqProofs only [xwp_2, xwp_0, xwp_1, xws_s, xdd_o, xld_0, xld_s, xs1_0, xs1_1, xs1_s, xs2_0, xs2_1, xs2_s, xlg_n, xlg_i, xlg_r, xlg_z, xlg_l, xf4_0, xf4_1, xf4_2, xf4_3, xgo_e, xcmp_eq, xcmp_ne, xcmp_lt, xcmp_ge, xcmp_gt, xcmp_le, xfg_0, xfg_1, xfg_2, xfg_3, xfg_4, xpop_0, xpop_s, xsw_n, xsw_c, xtb_n, xtb_c, xenp_n, xenp_i, xenp_r, xenp_z, xenp_l, xrep_0, xrep_s, Nat.reduceSub, true_and, and_true, cat_i, cat_r, Nat.reduceAdd, Nat.reduceLT, Nat.reduceLeDiff, Nat.reduceEqDiff, xnc, Int.reduceAdd, Int.reduceSub, Int.reduceNeg, Int.reduceLE, Int.reduceLT, Int.reduceToNat, ↓reduceIte, List.length_cons, List.length_nil, xlc0, xlc1, ite_10, i10, i01, i0_2, i0_3, i0_4, i0_6, i0_7, i0_8, i0_49, i0_10, or_true, true_or, or_false, false_or, not_false_eq_true, not_true_eq_false, xnt, xI_g, eq_self, xI_2, xJ_1, false_and, and_false, obM_t, rMi, vp_tn, tn_def, lgc, nI8, nI6, nI160, nI20, nI401, nI49, aM_6, aM_7, aM_8, aM_9, aM_10, aM_11, aM_12, aM_13, aM_14, aM_15, aM_16, aM_17, aM_18, aM_19, aM_20, aM_21, aM_22, aM_23, aM_24, aM_25, aM_26, aM_27, aM_28, aM_29, aM_30, aM_31, aM_38, aM_39, aM_40, aM_41, aM_42, aM_43, aM_44, aM_45, aM_46, aM_47, lM_6, lM_7, lM_8, lM_9, lM_10, lM_11, lM_12, lM_13, lM_14, lM_15, lM_16, lM_17, lM_18, lM_19, lM_20, lM_21, lM_22, lM_23, lM_24, lM_25, lM_26, lM_27, lM_28, lM_29, lM_30, lM_31, lM_38, lM_39, lM_40, lM_41, lM_42, lM_43, lM_44, lM_45, lM_46, lM_47, dX7_adds_0, st_aload_n, dX7_adds_1, st_getfield, fl_X7_32, dX7_adds_4, dX7_adds_5, fl_X7_126, dX7_adds_8, st_iload_n, dX7_adds_9, st_iastore, dX7_adds_10, dX7_adds_11, fl_X7_38, dX7_adds_14, dX7_adds_15, dX7_adds_18, dX7_adds_19, dX7_adds_20, dX7_adds_21, fl_X7_41, dX7_adds_24, dX7_adds_25, dX7_adds_28, dX7_adds_29, dX7_adds_30, dX7_adds_31, fl_X7_44, dX7_adds_34, dX7_adds_35, dX7_adds_38, st_iload, dX7_adds_40, dX7_adds_41, dX7_adds_42, fl_X7_47, dX7_adds_45, dX7_adds_46, dX7_adds_49, st_iconst, dX7_adds_50, dX7_adds_51, dX7_adds_52, fl_X7_50, dX7_adds_55, dX7_adds_56, dX7_adds_59, dX7_adds_60, dX7_adds_61, dX7_adds_62, fl_X7_35, dX7_adds_65, dX7_adds_66, dX7_adds_69, dX7_adds_71, dX7_adds_72, dX7_adds_73, st_dup, dX7_adds_74, dX7_adds_77, st_dup_x1, dX7_adds_78, dX7_adds_79, st_iadd, dX7_adds_80, st_putfield, dX7_adds_83, st_ireturn, ofI_0, ofJ_1, hp1, hp2, h6]
  simp only [hR, fX7_adds_e, adM, and_self]
theorem rX7_adds : ∀ as σ, pX7_adds as σ → ∃ K as', as = .ref K :: as' ∧ xob WM K 7 := by
  rintro as σ ⟨k, p, d, g, a, rfl, hpre⟩
  exact ⟨_, _, rfl, by first | exact hpre | exact hpre.1 | exact obT hpre | exact obT hpre.1 | exact obS hpre | exact obS hpre.1 | exact obM | exact ob6 | exact ob2 | exact ob0⟩
def pX7_isWall (as : List Value) (σ : xS) : Prop := ∃ (p : Int32), as = [.ref 0, .int p] ∧ (True)
def fX7_isWall (as : List Value) (σ : xS) : Option Value × xS := match as with
  | [.ref 0, .int p] => (some (.int (iwlM σ p).1), (iwlM σ p).2)
  | _ => (none, σ)
theorem pX7_isWall_e {p : Int32} {σ : xS} : pX7_isWall [.ref 0, .int p] σ = (True) := propext ⟨fun h => by obtain ⟨p, e, h⟩ := h; cases e; exact h, fun h => ⟨p, rfl, h⟩⟩
theorem fX7_isWall_e {p : Int32} {σ : xS} : fX7_isWall [.ref 0, .int p] σ = (some (.int (iwlM σ p).1), (iwlM σ p).2) := rfl
def calX7_isWall : List (Nat × xCall) := [(167, (false, 2, pX7_isPlace, fX7_isPlace)), (136, (false, 2, pX7_no, fX7_no))]
theorem c_X7_isWall_167 : xlk calX7_isWall 167 = some (false, 2, pX7_isPlace, fX7_isPlace) := rfl
theorem c_X7_isWall_136 : xlk calX7_isWall 136 = some (false, 2, pX7_no, fX7_no) := rfl
set_option maxHeartbeats 4000000 in
set_option maxRecDepth 100000 in
theorem mX7_isWall : xMet WM yX7_isWall cX7_isWall 2 (some .int) 2 pX7_isWall fX7_isWall := by
  refine xMet_of (fld := xlk fldX7) (cal := xlk calX7_isWall) (ks := xlk []) (gs := xlk []) (ro := fun _ => none) 0 (by decide) WM_nd rfl fldX7_ok xKs_nil xGs_nil (Or.inr rfl) (xcal_cons (xCk_V mX7_isPlace 7 (by decide) (by decide) (by decide) rfl (fun as σ h _ => rX7_isPlace as σ h) w_X7_167 ⟨by decide, by decide, by decide +kernel⟩) (xcal_cons (xCk_V mX7_no 7 (by decide) (by decide) (by decide) rfl (fun as σ h _ => rX7_no as σ h) w_X7_136 ⟨by decide, by decide, by decide +kernel⟩) xcal_nil)) ?_ ?_
  · rintro av σ ⟨p, rfl, hpre⟩
    exact Nat.le_of_ble_eq_true rfl
  rintro av σ ⟨p, rfl, hp1⟩ Rt hR
  have hR2 := hR2_g (Rt := Rt) (F := iwlM σ p) (fun r s' => by rw [hR, fX7_isWall_e])
  have h49 : 0 ≤ p ∧ p < 49 → tn p < 49 := tn49
  refine xgo0 15 ?_
  simp -implicitDefEqProofs only [xwp_2, xwp_0, xwp_1, xws_s, xdd_o, xld_0, xld_s, xs1_0, xs1_1, xs1_s, xs2_0, xs2_1, xs2_s, xlg_n, xlg_i, xlg_r, xlg_z, xlg_l, xf4_0, xf4_1, xf4_2, xf4_3, xgo_e, xcmp_eq, xcmp_ne, xcmp_lt, xcmp_ge, xcmp_gt, xcmp_le, xfg_0, xfg_1, xfg_2, xfg_3, xfg_4, xpop_0, xpop_s, xsw_n, xsw_c, xtb_n, xtb_c, xenp_n, xenp_i, xenp_r, xenp_z, xenp_l, xrep_0, xrep_s, Nat.reduceSub, true_and, and_true, cat_i, cat_r, Nat.reduceAdd, Nat.reduceLT, Nat.reduceLeDiff, Nat.reduceEqDiff, xnc, Int.reduceAdd, Int.reduceSub, Int.reduceNeg, Int.reduceLE, Int.reduceLT, Int.reduceToNat, ↓reduceIte, List.length_cons, List.length_nil, xlc0, xlc1, ite_10, i10, i01, i0_2, i0_3, i0_4, i0_6, i0_7, i0_8, i0_49, i0_10, or_true, true_or, or_false, false_or, not_false_eq_true, not_true_eq_false, xnt, xI_g, eq_self, xI_2, xJ_1, false_and, and_false, obM_t, rMi, vp_tn, tn_def, lgc, nI8, nI6, nI160, nI20, nI401, nI49, aM_6, aM_7, aM_8, aM_9, aM_10, aM_11, aM_12, aM_13, aM_14, aM_15, aM_16, aM_17, aM_18, aM_19, aM_20, aM_21, aM_22, aM_23, aM_24, aM_25, aM_26, aM_27, aM_28, aM_29, aM_30, aM_31, aM_38, aM_39, aM_40, aM_41, aM_42, aM_43, aM_44, aM_45, aM_46, aM_47, lM_6, lM_7, lM_8, lM_9, lM_10, lM_11, lM_12, lM_13, lM_14, lM_15, lM_16, lM_17, lM_18, lM_19, lM_20, lM_21, lM_22, lM_23, lM_24, lM_25, lM_26, lM_27, lM_28, lM_29, lM_30, lM_31, lM_38, lM_39, lM_40, lM_41, lM_42, lM_43, lM_44, lM_45, lM_46, lM_47, dX7_isWall_0, st_aload_n, dX7_isWall_1, st_iload_n, dX7_isWall_2, st_invokevirtual, dX7_isWall_5, st_ifCond, dX7_isWall_8, dX7_isWall_9, st_getfield, fl_X7_29, dX7_isWall_12, dX7_isWall_13, st_iaload, dX7_isWall_14, st_goto, dX7_isWall_17, dX7_isWall_18, st_bipush, dX7_isWall_20, dX7_isWall_23, st_ireturn, c_X7_isWall_167, pX7_isPlace_e, fX7_isPlace_e, Option.toList_some, Option.toList_none, List.cons_append, List.nil_append, c_X7_isWall_136, pX7_no_e, fX7_no_e, ofI_m5, hp1, nbP_1, nbP_2, nbP_3, nbP_4, nbP_5, nbP_6, nbP_7]
  clear hR
  simp only [hR2, iwlM, noM]
  clear hR2
  grind (splits := 40)
theorem rX7_isWall : ∀ as σ, pX7_isWall as σ → ∃ K as', as = .ref K :: as' ∧ xob WM K 7 := by
  rintro as σ ⟨p, rfl, hpre⟩
  exact ⟨_, _, rfl, by first | exact hpre | exact hpre.1 | exact obT hpre | exact obT hpre.1 | exact obS hpre | exact obS hpre.1 | exact obM | exact ob6 | exact ob2 | exact ob0⟩
def pX7_teach (as : List Value) (σ : xS) : Prop := ∃ (x : Int32) (g : Int32), as = [.ref 0, .int x, .int g] ∧ (σ.1 0 1 ≤ 6)
def fX7_teach (as : List Value) (σ : xS) : Option Value × xS := match as with
  | [.ref 0, .int x, .int g] => (some (.int (teaM σ x g).1), (teaM σ x g).2)
  | _ => (none, σ)
theorem pX7_teach_e {x : Int32} {g : Int32} {σ : xS} : pX7_teach [.ref 0, .int x, .int g] σ = (σ.1 0 1 ≤ 6) := propext ⟨fun h => by obtain ⟨x, g, e, h⟩ := h; cases e; exact h, fun h => ⟨x, g, rfl, h⟩⟩
theorem fX7_teach_e {x : Int32} {g : Int32} {σ : xS} : fX7_teach [.ref 0, .int x, .int g] σ = (some (.int (teaM σ x g).1), (teaM σ x g).2) := rfl
def calX7_teach : List (Nat × xCall) := [(140, (false, 2, pX7_isWalker, fX7_isWalker)), (161, (false, 2, pX7_isGait, fX7_isGait)), (136, (false, 2, pX7_no, fX7_no))]
theorem c_X7_teach_140 : xlk calX7_teach 140 = some (false, 2, pX7_isWalker, fX7_isWalker) := rfl
theorem c_X7_teach_161 : xlk calX7_teach 161 = some (false, 2, pX7_isGait, fX7_isGait) := rfl
theorem c_X7_teach_136 : xlk calX7_teach 136 = some (false, 2, pX7_no, fX7_no) := rfl
set_option maxHeartbeats 4000000 in
set_option maxRecDepth 100000 in
theorem mX7_teach : xMet WM yX7_teach cX7_teach 4 (some .int) 2 pX7_teach fX7_teach := by
  refine xMet_of (fld := xlk fldX7) (cal := xlk calX7_teach) (ks := xlk []) (gs := xlk []) (ro := fun _ => none) 0 (by decide) WM_nd rfl fldX7_ok xKs_nil xGs_nil (Or.inr rfl) (xcal_cons (xCk_V mX7_isWalker 7 (by decide) (by decide) (by decide) rfl (fun as σ h _ => rX7_isWalker as σ h) w_X7_140 ⟨by decide, by decide, by decide +kernel⟩) (xcal_cons (xCk_V mX7_isGait 7 (by decide) (by decide) (by decide) rfl (fun as σ h _ => rX7_isGait as σ h) w_X7_161 ⟨by decide, by decide, by decide +kernel⟩) (xcal_cons (xCk_V mX7_no 7 (by decide) (by decide) (by decide) rfl (fun as σ h _ => rX7_no as σ h) w_X7_136 ⟨by decide, by decide, by decide +kernel⟩) xcal_nil))) ?_ ?_
  · rintro av σ ⟨x, g, rfl, hpre⟩
    exact Nat.le_of_ble_eq_true rfl
  rintro av σ ⟨x, g, rfl, hp1⟩ Rt hR
  have hR2 := hR2_g (Rt := Rt) (F := teaM σ x g) (fun r s' => by rw [hR, fX7_teach_e])
  have h6 : 0 ≤ x ∧ x < σ.1 0 1 → 0 ≤ x ∧ tn x < 6 := fun h => ⟨h.1, tn6 h hp1⟩
  refine xgo0 31 ?_
  simp -implicitDefEqProofs only [xwp_2, xwp_0, xwp_1, xws_s, xdd_o, xld_0, xld_s, xs1_0, xs1_1, xs1_s, xs2_0, xs2_1, xs2_s, xlg_n, xlg_i, xlg_r, xlg_z, xlg_l, xf4_0, xf4_1, xf4_2, xf4_3, xgo_e, xcmp_eq, xcmp_ne, xcmp_lt, xcmp_ge, xcmp_gt, xcmp_le, xfg_0, xfg_1, xfg_2, xfg_3, xfg_4, xpop_0, xpop_s, xsw_n, xsw_c, xtb_n, xtb_c, xenp_n, xenp_i, xenp_r, xenp_z, xenp_l, xrep_0, xrep_s, Nat.reduceSub, true_and, and_true, cat_i, cat_r, Nat.reduceAdd, Nat.reduceLT, Nat.reduceLeDiff, Nat.reduceEqDiff, xnc, Int.reduceAdd, Int.reduceSub, Int.reduceNeg, Int.reduceLE, Int.reduceLT, Int.reduceToNat, ↓reduceIte, List.length_cons, List.length_nil, xlc0, xlc1, ite_10, i10, i01, i0_2, i0_3, i0_4, i0_6, i0_7, i0_8, i0_49, i0_10, or_true, true_or, or_false, false_or, not_false_eq_true, not_true_eq_false, xnt, xI_g, eq_self, xI_2, xJ_1, false_and, and_false, obM_t, rMi, vp_tn, tn_def, lgc, nI8, nI6, nI160, nI20, nI401, nI49, aM_6, aM_7, aM_8, aM_9, aM_10, aM_11, aM_12, aM_13, aM_14, aM_15, aM_16, aM_17, aM_18, aM_19, aM_20, aM_21, aM_22, aM_23, aM_24, aM_25, aM_26, aM_27, aM_28, aM_29, aM_30, aM_31, aM_38, aM_39, aM_40, aM_41, aM_42, aM_43, aM_44, aM_45, aM_46, aM_47, lM_6, lM_7, lM_8, lM_9, lM_10, lM_11, lM_12, lM_13, lM_14, lM_15, lM_16, lM_17, lM_18, lM_19, lM_20, lM_21, lM_22, lM_23, lM_24, lM_25, lM_26, lM_27, lM_28, lM_29, lM_30, lM_31, lM_38, lM_39, lM_40, lM_41, lM_42, lM_43, lM_44, lM_45, lM_46, lM_47, dX7_teach_0, st_aload_n, dX7_teach_1, st_iload_n, dX7_teach_2, st_invokevirtual, dX7_teach_5, st_ifCond, dX7_teach_8, dX7_teach_9, dX7_teach_10, dX7_teach_13, dX7_teach_16, dX7_teach_17, st_iconst, dX7_teach_18, dX7_teach_21, st_ireturn, dX7_teach_22, dX7_teach_23, st_getfield, fl_X7_44, dX7_teach_26, dX7_teach_27, st_iaload, dX7_teach_28, st_istore_n, dX7_teach_29, dX7_teach_30, dX7_teach_33, dX7_teach_34, dX7_teach_35, st_iastore, dX7_teach_36, dX7_teach_37, fl_X7_47, dX7_teach_40, dX7_teach_41, dX7_teach_42, dX7_teach_43, dX7_teach_44, c_X7_teach_140, pX7_isWalker_e, fX7_isWalker_e, Option.toList_some, Option.toList_none, List.cons_append, List.nil_append, c_X7_teach_161, pX7_isGait_e, fX7_isGait_e, c_X7_teach_136, pX7_no_e, fX7_no_e, ofI_m1, ofI_0, hp1, nbP_1, nbP_2, nbP_3, nbP_4, nbP_5, nbP_6, nbP_7]
  clear hR
  simp only [hR2, teaM, noM]
  clear hR2
  grind (splits := 40)
theorem rX7_teach : ∀ as σ, pX7_teach as σ → ∃ K as', as = .ref K :: as' ∧ xob WM K 7 := by
  rintro as σ ⟨x, g, rfl, hpre⟩
  exact ⟨_, _, rfl, by first | exact hpre | exact hpre.1 | exact obT hpre | exact obT hpre.1 | exact obS hpre | exact obS hpre.1 | exact obM | exact ob6 | exact ob2 | exact ob0⟩
def pX7_seed (as : List Value) (σ : xS) : Prop := ∃ (v : Int32), as = [.ref 0, .int v] ∧ (True)
def fX7_seed (as : List Value) (σ : xS) : Option Value × xS := match as with
  | [.ref 0, .int v] => (some (.int (seeM σ v).1), (seeM σ v).2)
  | _ => (none, σ)
theorem pX7_seed_e {v : Int32} {σ : xS} : pX7_seed [.ref 0, .int v] σ = (True) := propext ⟨fun h => by obtain ⟨v, e, h⟩ := h; cases e; exact h, fun h => ⟨v, rfl, h⟩⟩
theorem fX7_seed_e {v : Int32} {σ : xS} : fX7_seed [.ref 0, .int v] σ = (some (.int (seeM σ v).1), (seeM σ v).2) := rfl
def calX7_seed : List (Nat × xCall) := []
set_option maxHeartbeats 4000000 in
set_option maxRecDepth 100000 in
theorem mX7_seed : xMet WM yX7_seed cX7_seed 3 (some .int) 1 pX7_seed fX7_seed := by
  refine xMet_of (fld := xlk fldX7) (cal := xlk calX7_seed) (ks := xlk []) (gs := xlk []) (ro := fun _ => none) 0 (by decide) WM_nd rfl fldX7_ok xKs_nil xGs_nil (Or.inr rfl) xcal_nil ?_ ?_
  · rintro av σ ⟨v, rfl, hpre⟩
    exact Nat.le_of_ble_eq_true rfl
  rintro av σ ⟨v, rfl, hp1⟩ Rt hR
  have hR2 := hR2_g (Rt := Rt) (F := seeM σ v) (fun r s' => by rw [hR, fX7_seed_e])
  refine xgo0 10 ?_
  simp -implicitDefEqProofs only [xwp_2, xwp_0, xwp_1, xws_s, xdd_o, xld_0, xld_s, xs1_0, xs1_1, xs1_s, xs2_0, xs2_1, xs2_s, xlg_n, xlg_i, xlg_r, xlg_z, xlg_l, xf4_0, xf4_1, xf4_2, xf4_3, xgo_e, xcmp_eq, xcmp_ne, xcmp_lt, xcmp_ge, xcmp_gt, xcmp_le, xfg_0, xfg_1, xfg_2, xfg_3, xfg_4, xpop_0, xpop_s, xsw_n, xsw_c, xtb_n, xtb_c, xenp_n, xenp_i, xenp_r, xenp_z, xenp_l, xrep_0, xrep_s, Nat.reduceSub, true_and, and_true, cat_i, cat_r, Nat.reduceAdd, Nat.reduceLT, Nat.reduceLeDiff, Nat.reduceEqDiff, xnc, Int.reduceAdd, Int.reduceSub, Int.reduceNeg, Int.reduceLE, Int.reduceLT, Int.reduceToNat, ↓reduceIte, List.length_cons, List.length_nil, xlc0, xlc1, ite_10, i10, i01, i0_2, i0_3, i0_4, i0_6, i0_7, i0_8, i0_49, i0_10, or_true, true_or, or_false, false_or, not_false_eq_true, not_true_eq_false, xnt, xI_g, eq_self, xI_2, xJ_1, false_and, and_false, obM_t, rMi, vp_tn, tn_def, lgc, nI8, nI6, nI160, nI20, nI401, nI49, aM_6, aM_7, aM_8, aM_9, aM_10, aM_11, aM_12, aM_13, aM_14, aM_15, aM_16, aM_17, aM_18, aM_19, aM_20, aM_21, aM_22, aM_23, aM_24, aM_25, aM_26, aM_27, aM_28, aM_29, aM_30, aM_31, aM_38, aM_39, aM_40, aM_41, aM_42, aM_43, aM_44, aM_45, aM_46, aM_47, lM_6, lM_7, lM_8, lM_9, lM_10, lM_11, lM_12, lM_13, lM_14, lM_15, lM_16, lM_17, lM_18, lM_19, lM_20, lM_21, lM_22, lM_23, lM_24, lM_25, lM_26, lM_27, lM_28, lM_29, lM_30, lM_31, lM_38, lM_39, lM_40, lM_41, lM_42, lM_43, lM_44, lM_45, lM_46, lM_47, dX7_seed_0, st_aload_n, dX7_seed_1, st_getfield, fl_X7_7, dX7_seed_4, st_istore_n, dX7_seed_5, dX7_seed_6, st_iload_n, dX7_seed_7, st_putfield, dX7_seed_10, dX7_seed_11, st_ireturn, hp1]
  clear hR
  simp only [hR2, seeM]
theorem rX7_seed : ∀ as σ, pX7_seed as σ → ∃ K as', as = .ref K :: as' ∧ xob WM K 7 := by
  rintro as σ ⟨v, rfl, hpre⟩
  exact ⟨_, _, rfl, by first | exact hpre | exact hpre.1 | exact obT hpre | exact obT hpre.1 | exact obS hpre | exact obS hpre.1 | exact obM | exact ob6 | exact ob2 | exact ob0⟩
def pX7_holds (as : List Value) (σ : xS) : Prop := ∃ (s : Int32), as = [.ref 0, .int s] ∧ (True)
def fX7_holds (as : List Value) (σ : xS) : Option Value × xS := match as with
  | [.ref 0, .int s] => (some (.int (hldM σ s)), σ)
  | _ => (none, σ)
theorem pX7_holds_e {s : Int32} {σ : xS} : pX7_holds [.ref 0, .int s] σ = (True) := propext ⟨fun h => by obtain ⟨s, e, h⟩ := h; cases e; exact h, fun h => ⟨s, rfl, h⟩⟩
theorem fX7_holds_e {s : Int32} {σ : xS} : fX7_holds [.ref 0, .int s] σ = (some (.int (hldM σ s)), σ) := rfl
def calX7_holds : List (Nat × xCall) := [(132, (false, 2, pX7_isShelf, fX7_isShelf))]
theorem c_X7_holds_132 : xlk calX7_holds 132 = some (false, 2, pX7_isShelf, fX7_isShelf) := rfl
set_option maxHeartbeats 4000000 in
set_option maxRecDepth 100000 in
theorem mX7_holds : xMet WM yX7_holds cX7_holds 2 (some .int) 2 pX7_holds fX7_holds := by
  refine xMet_of (fld := xlk fldX7) (cal := xlk calX7_holds) (ks := xlk []) (gs := xlk []) (ro := fun _ => none) 0 (by decide) WM_nd rfl fldX7_ok xKs_nil xGs_nil (Or.inr rfl) (xcal_cons (xCk_V mX7_isShelf 7 (by decide) (by decide) (by decide) rfl (fun as σ h _ => rX7_isShelf as σ h) w_X7_132 ⟨by decide, by decide, by decide +kernel⟩) xcal_nil) ?_ ?_
  · rintro av σ ⟨s, rfl, hpre⟩
    exact Nat.le_of_ble_eq_true rfl
  rintro av σ ⟨s, rfl, hp1⟩ Rt hR
  have h8 : 0 ≤ s ∧ s < 8 → tn s < 8 := tn8
  refine xgo0 31 ?_
  simp -implicitDefEqProofs only [xwp_2, xwp_0, xwp_1, xws_s, xdd_o, xld_0, xld_s, xs1_0, xs1_1, xs1_s, xs2_0, xs2_1, xs2_s, xlg_n, xlg_i, xlg_r, xlg_z, xlg_l, xf4_0, xf4_1, xf4_2, xf4_3, xgo_e, xcmp_eq, xcmp_ne, xcmp_lt, xcmp_ge, xcmp_gt, xcmp_le, xfg_0, xfg_1, xfg_2, xfg_3, xfg_4, xpop_0, xpop_s, xsw_n, xsw_c, xtb_n, xtb_c, xenp_n, xenp_i, xenp_r, xenp_z, xenp_l, xrep_0, xrep_s, Nat.reduceSub, true_and, and_true, cat_i, cat_r, Nat.reduceAdd, Nat.reduceLT, Nat.reduceLeDiff, Nat.reduceEqDiff, xnc, Int.reduceAdd, Int.reduceSub, Int.reduceNeg, Int.reduceLE, Int.reduceLT, Int.reduceToNat, ↓reduceIte, List.length_cons, List.length_nil, xlc0, xlc1, ite_10, i10, i01, i0_2, i0_3, i0_4, i0_6, i0_7, i0_8, i0_49, i0_10, or_true, true_or, or_false, false_or, not_false_eq_true, not_true_eq_false, xnt, xI_g, eq_self, xI_2, xJ_1, false_and, and_false, obM_t, rMi, vp_tn, tn_def, lgc, nI8, nI6, nI160, nI20, nI401, nI49, aM_6, aM_7, aM_8, aM_9, aM_10, aM_11, aM_12, aM_13, aM_14, aM_15, aM_16, aM_17, aM_18, aM_19, aM_20, aM_21, aM_22, aM_23, aM_24, aM_25, aM_26, aM_27, aM_28, aM_29, aM_30, aM_31, aM_38, aM_39, aM_40, aM_41, aM_42, aM_43, aM_44, aM_45, aM_46, aM_47, lM_6, lM_7, lM_8, lM_9, lM_10, lM_11, lM_12, lM_13, lM_14, lM_15, lM_16, lM_17, lM_18, lM_19, lM_20, lM_21, lM_22, lM_23, lM_24, lM_25, lM_26, lM_27, lM_28, lM_29, lM_30, lM_31, lM_38, lM_39, lM_40, lM_41, lM_42, lM_43, lM_44, lM_45, lM_46, lM_47, dX7_holds_0, st_aload_n, dX7_holds_1, st_iload_n, dX7_holds_2, st_invokevirtual, dX7_holds_5, st_ifCond, dX7_holds_8, dX7_holds_9, st_getfield, fl_X7_68, dX7_holds_12, dX7_holds_13, st_iaload, dX7_holds_14, dX7_holds_17, st_iconst, dX7_holds_18, st_ireturn, dX7_holds_19, dX7_holds_20, dX7_holds_23, dX7_holds_24, dX7_holds_25, dX7_holds_26, st_if_icmp, dX7_holds_29, st_bipush, dX7_holds_31, dX7_holds_32, fl_X7_71, dX7_holds_35, dX7_holds_36, dX7_holds_37, st_iadd, dX7_holds_38, st_goto, dX7_holds_41, dX7_holds_42, fl_X7_77, dX7_holds_45, dX7_holds_46, dX7_holds_47, c_X7_holds_132, pX7_isShelf_e, fX7_isShelf_e, Option.toList_some, Option.toList_none, List.cons_append, List.nil_append, ofI_m1, ofJ_1, ofI_100, hp1]
  simp only [hR, fX7_holds_e, hldM]
  clear hR
  grind (splits := 40)
theorem rX7_holds : ∀ as σ, pX7_holds as σ → ∃ K as', as = .ref K :: as' ∧ xob WM K 7 := by
  rintro as σ ⟨s, rfl, hpre⟩
  exact ⟨_, _, rfl, by first | exact hpre | exact hpre.1 | exact obT hpre | exact obT hpre.1 | exact obS hpre | exact obS hpre.1 | exact obM | exact ob6 | exact ob2 | exact ob0⟩
def pX7_show (as : List Value) (σ : xS) : Prop := ∃ (s : Int32) (x : Int32), as = [.ref 0, .int s, .int x] ∧ (True)
def fX7_show (as : List Value) (σ : xS) : Option Value × xS := match as with
  | [.ref 0, .int s, .int x] => (some (.int (showM σ s x).1), (showM σ s x).2)
  | _ => (none, σ)
theorem pX7_show_e {s : Int32} {x : Int32} {σ : xS} : pX7_show [.ref 0, .int s, .int x] σ = (True) := propext ⟨fun h => by obtain ⟨s, x, e, h⟩ := h; cases e; exact h, fun h => ⟨s, x, rfl, h⟩⟩
theorem fX7_show_e {s : Int32} {x : Int32} {σ : xS} : fX7_show [.ref 0, .int s, .int x] σ = (some (.int (showM σ s x).1), (showM σ s x).2) := rfl
def calX7_show : List (Nat × xCall) := [(132, (false, 2, pX7_isShelf, fX7_isShelf)), (140, (false, 2, pX7_isWalker, fX7_isWalker)), (136, (false, 2, pX7_no, fX7_no))]
theorem c_X7_show_132 : xlk calX7_show 132 = some (false, 2, pX7_isShelf, fX7_isShelf) := rfl
theorem c_X7_show_140 : xlk calX7_show 140 = some (false, 2, pX7_isWalker, fX7_isWalker) := rfl
theorem c_X7_show_136 : xlk calX7_show 136 = some (false, 2, pX7_no, fX7_no) := rfl
set_option maxHeartbeats 4000000 in
set_option maxRecDepth 100000 in
theorem mX7_show : xMet WM yX7_show cX7_show 3 (some .int) 2 pX7_show fX7_show := by
  refine xMet_of (fld := xlk fldX7) (cal := xlk calX7_show) (ks := xlk []) (gs := xlk []) (ro := fun _ => none) 0 (by decide) WM_nd rfl fldX7_ok xKs_nil xGs_nil (Or.inr rfl) (xcal_cons (xCk_V mX7_isShelf 7 (by decide) (by decide) (by decide) rfl (fun as σ h _ => rX7_isShelf as σ h) w_X7_132 ⟨by decide, by decide, by decide +kernel⟩) (xcal_cons (xCk_V mX7_isWalker 7 (by decide) (by decide) (by decide) rfl (fun as σ h _ => rX7_isWalker as σ h) w_X7_140 ⟨by decide, by decide, by decide +kernel⟩) (xcal_cons (xCk_V mX7_no 7 (by decide) (by decide) (by decide) rfl (fun as σ h _ => rX7_no as σ h) w_X7_136 ⟨by decide, by decide, by decide +kernel⟩) xcal_nil))) ?_ ?_
  · rintro av σ ⟨s, x, rfl, hpre⟩
    exact Nat.le_of_ble_eq_true rfl
  rintro av σ ⟨s, x, rfl, hp1⟩ Rt hR
  have hR2 := hR2_g (Rt := Rt) (F := showM σ s x) (fun r s' => by rw [hR, fX7_show_e])
  have h8 : 0 ≤ s ∧ s < 8 → tn s < 8 := tn8
  refine xgo0 39 ?_
  simp -implicitDefEqProofs only [xwp_2, xwp_0, xwp_1, xws_s, xdd_o, xld_0, xld_s, xs1_0, xs1_1, xs1_s, xs2_0, xs2_1, xs2_s, xlg_n, xlg_i, xlg_r, xlg_z, xlg_l, xf4_0, xf4_1, xf4_2, xf4_3, xgo_e, xcmp_eq, xcmp_ne, xcmp_lt, xcmp_ge, xcmp_gt, xcmp_le, xfg_0, xfg_1, xfg_2, xfg_3, xfg_4, xpop_0, xpop_s, xsw_n, xsw_c, xtb_n, xtb_c, xenp_n, xenp_i, xenp_r, xenp_z, xenp_l, xrep_0, xrep_s, Nat.reduceSub, true_and, and_true, cat_i, cat_r, Nat.reduceAdd, Nat.reduceLT, Nat.reduceLeDiff, Nat.reduceEqDiff, xnc, Int.reduceAdd, Int.reduceSub, Int.reduceNeg, Int.reduceLE, Int.reduceLT, Int.reduceToNat, ↓reduceIte, List.length_cons, List.length_nil, xlc0, xlc1, ite_10, i10, i01, i0_2, i0_3, i0_4, i0_6, i0_7, i0_8, i0_49, i0_10, or_true, true_or, or_false, false_or, not_false_eq_true, not_true_eq_false, xnt, xI_g, eq_self, xI_2, xJ_1, false_and, and_false, obM_t, rMi, vp_tn, tn_def, lgc, nI8, nI6, nI160, nI20, nI401, nI49, aM_6, aM_7, aM_8, aM_9, aM_10, aM_11, aM_12, aM_13, aM_14, aM_15, aM_16, aM_17, aM_18, aM_19, aM_20, aM_21, aM_22, aM_23, aM_24, aM_25, aM_26, aM_27, aM_28, aM_29, aM_30, aM_31, aM_38, aM_39, aM_40, aM_41, aM_42, aM_43, aM_44, aM_45, aM_46, aM_47, lM_6, lM_7, lM_8, lM_9, lM_10, lM_11, lM_12, lM_13, lM_14, lM_15, lM_16, lM_17, lM_18, lM_19, lM_20, lM_21, lM_22, lM_23, lM_24, lM_25, lM_26, lM_27, lM_28, lM_29, lM_30, lM_31, lM_38, lM_39, lM_40, lM_41, lM_42, lM_43, lM_44, lM_45, lM_46, lM_47, dX7_show_0, st_aload_n, dX7_show_1, st_iload_n, dX7_show_2, st_invokevirtual, dX7_show_5, st_ifCond, dX7_show_8, dX7_show_9, st_iconst, dX7_show_10, st_if_icmp, dX7_show_13, dX7_show_14, dX7_show_15, dX7_show_18, dX7_show_21, dX7_show_22, dX7_show_23, dX7_show_26, st_ireturn, dX7_show_27, dX7_show_28, st_getfield, fl_X7_68, dX7_show_31, dX7_show_32, dX7_show_33, dX7_show_34, dX7_show_37, dX7_show_38, st_goto, dX7_show_41, dX7_show_42, st_iastore, dX7_show_43, dX7_show_44, fl_X7_77, dX7_show_47, dX7_show_48, dX7_show_49, dX7_show_50, dX7_show_51, dX7_show_52, dX7_show_55, dX7_show_56, dX7_show_59, dX7_show_60, c_X7_show_132, pX7_isShelf_e, fX7_isShelf_e, Option.toList_some, Option.toList_none, List.cons_append, List.nil_append, c_X7_show_140, pX7_isWalker_e, fX7_isWalker_e, c_X7_show_136, pX7_no_e, fX7_no_e, ofI_m1, ofI_0, ofJ_2, ofJ_1, hp1, nbP_1, nbP_2, nbP_3, nbP_4, nbP_5, nbP_6, nbP_7]
  clear hR
  simp only [hR2, showM, noM]
  clear hR2
  grind (splits := 40)
theorem rX7_show : ∀ as σ, pX7_show as σ → ∃ K as', as = .ref K :: as' ∧ xob WM K 7 := by
  rintro as σ ⟨s, x, rfl, hpre⟩
  exact ⟨_, _, rfl, by first | exact hpre | exact hpre.1 | exact obT hpre | exact obT hpre.1 | exact obS hpre | exact obS hpre.1 | exact obM | exact ob6 | exact ob2 | exact ob0⟩
def pX7_trace (as : List Value) (σ : xS) : Prop := ∃ (i : Int32), as = [.ref 0, .int i] ∧ (True)
def fX7_trace (as : List Value) (σ : xS) : Option Value × xS := match as with
  | [.ref 0, .int i] => (some (.int (traM σ i)), σ)
  | _ => (none, σ)
theorem pX7_trace_e {i : Int32} {σ : xS} : pX7_trace [.ref 0, .int i] σ = (True) := propext ⟨fun h => by obtain ⟨i, e, h⟩ := h; cases e; exact h, fun h => ⟨i, rfl, h⟩⟩
theorem fX7_trace_e {i : Int32} {σ : xS} : fX7_trace [.ref 0, .int i] σ = (some (.int (traM σ i)), σ) := rfl
def calX7_trace : List (Nat × xCall) := []
set_option maxHeartbeats 4000000 in
set_option maxRecDepth 100000 in
theorem mX7_trace : xMet WM yX7_trace cX7_trace 2 (some .int) 1 pX7_trace fX7_trace := by
  refine xMet_of (fld := xlk fldX7) (cal := xlk calX7_trace) (ks := xlk []) (gs := xlk []) (ro := fun _ => none) 0 (by decide) WM_nd rfl fldX7_ok xKs_nil xGs_nil (Or.inr rfl) xcal_nil ?_ ?_
  · rintro av σ ⟨i, rfl, hpre⟩
    exact Nat.le_of_ble_eq_true rfl
  rintro av σ ⟨i, rfl, hp1⟩ Rt hR
  have h20 : 0 ≤ i ∧ i < 20 → tn i < 20 := lt20
  refine xgo0 18 ?_
  simp -implicitDefEqProofs only [xwp_2, xwp_0, xwp_1, xws_s, xdd_o, xld_0, xld_s, xs1_0, xs1_1, xs1_s, xs2_0, xs2_1, xs2_s, xlg_n, xlg_i, xlg_r, xlg_z, xlg_l, xf4_0, xf4_1, xf4_2, xf4_3, xgo_e, xcmp_eq, xcmp_ne, xcmp_lt, xcmp_ge, xcmp_gt, xcmp_le, xfg_0, xfg_1, xfg_2, xfg_3, xfg_4, xpop_0, xpop_s, xsw_n, xsw_c, xtb_n, xtb_c, xenp_n, xenp_i, xenp_r, xenp_z, xenp_l, xrep_0, xrep_s, Nat.reduceSub, true_and, and_true, cat_i, cat_r, Nat.reduceAdd, Nat.reduceLT, Nat.reduceLeDiff, Nat.reduceEqDiff, xnc, Int.reduceAdd, Int.reduceSub, Int.reduceNeg, Int.reduceLE, Int.reduceLT, Int.reduceToNat, ↓reduceIte, List.length_cons, List.length_nil, xlc0, xlc1, ite_10, i10, i01, i0_2, i0_3, i0_4, i0_6, i0_7, i0_8, i0_49, i0_10, or_true, true_or, or_false, false_or, not_false_eq_true, not_true_eq_false, xnt, xI_g, eq_self, xI_2, xJ_1, false_and, and_false, obM_t, rMi, vp_tn, tn_def, lgc, nI8, nI6, nI160, nI20, nI401, nI49, aM_6, aM_7, aM_8, aM_9, aM_10, aM_11, aM_12, aM_13, aM_14, aM_15, aM_16, aM_17, aM_18, aM_19, aM_20, aM_21, aM_22, aM_23, aM_24, aM_25, aM_26, aM_27, aM_28, aM_29, aM_30, aM_31, aM_38, aM_39, aM_40, aM_41, aM_42, aM_43, aM_44, aM_45, aM_46, aM_47, lM_6, lM_7, lM_8, lM_9, lM_10, lM_11, lM_12, lM_13, lM_14, lM_15, lM_16, lM_17, lM_18, lM_19, lM_20, lM_21, lM_22, lM_23, lM_24, lM_25, lM_26, lM_27, lM_28, lM_29, lM_30, lM_31, lM_38, lM_39, lM_40, lM_41, lM_42, lM_43, lM_44, lM_45, lM_46, lM_47, dX7_trace_0, st_iload_n, dX7_trace_1, st_ifCond, dX7_trace_4, dX7_trace_5, st_bipush, dX7_trace_7, st_if_icmp, dX7_trace_10, dX7_trace_11, st_aload_n, dX7_trace_12, st_getfield, fl_X7_330, dX7_trace_15, dX7_trace_18, dX7_trace_19, fl_X7_123, dX7_trace_22, dX7_trace_23, st_iaload, dX7_trace_24, st_goto, dX7_trace_27, st_iconst, dX7_trace_28, st_ireturn, ofI_20, ofI_m1, hp1]
  simp only [hR, fX7_trace_e, traM]
  clear hR
  grind (splits := 40)
theorem rX7_trace : ∀ as σ, pX7_trace as σ → ∃ K as', as = .ref K :: as' ∧ xob WM K 7 := by
  rintro as σ ⟨i, rfl, hpre⟩
  exact ⟨_, _, rfl, by first | exact hpre | exact hpre.1 | exact obT hpre | exact obT hpre.1 | exact obS hpre | exact obS hpre.1 | exact obM | exact ob6 | exact ob2 | exact ob0⟩
def pX7_beat (as : List Value) (σ : xS) : Prop := ∃ (n : Int32), as = [.ref 0, .int n] ∧ ((0 ≤ σ.1 0 1) ∧ (σ.1 0 1 ≤ 6) ∧ (BOK σ))
def fX7_beat (as : List Value) (σ : xS) : Option Value × xS := match as with
  | [.ref 0, .int n] => (some (.int (beaM σ n).1), (beaM σ n).2)
  | _ => (none, σ)
theorem pX7_beat_e {n : Int32} {σ : xS} : pX7_beat [.ref 0, .int n] σ = ((0 ≤ σ.1 0 1) ∧ (σ.1 0 1 ≤ 6) ∧ (BOK σ)) := propext ⟨fun h => by obtain ⟨n, e, h⟩ := h; cases e; exact h, fun h => ⟨n, rfl, h⟩⟩
theorem fX7_beat_e {n : Int32} {σ : xS} : fX7_beat [.ref 0, .int n] σ = (some (.int (beaM σ n).1), (beaM σ n).2) := rfl
def calX7_beat : List (Nat × xCall) := [(238, (false, 2, pX7_goesOn, fX7_goesOn)), (136, (false, 2, pX7_no, fX7_no))]
theorem c_X7_beat_238 : xlk calX7_beat 238 = some (false, 2, pX7_goesOn, fX7_goesOn) := rfl
theorem c_X7_beat_136 : xlk calX7_beat 136 = some (false, 2, pX7_no, fX7_no) := rfl
set_option maxHeartbeats 4000000 in
set_option maxRecDepth 100000 in
theorem mX7_beat : xMet WM yX7_beat cX7_beat 2 (some .int) 6 pX7_beat fX7_beat := by
  refine xMet_of (fld := xlk fldX7) (cal := xlk calX7_beat) (ks := xlk []) (gs := xlk []) (ro := fun _ => none) 0 (by decide) WM_nd rfl fldX7_ok xKs_nil xGs_nil (Or.inr rfl) (xcal_cons (xCk_V mX7_goesOn 7 (by decide) (by decide) (by decide) rfl (fun as σ h _ => rX7_goesOn as σ h) w_X7_238 ⟨by decide, by decide, by decide +kernel⟩) (xcal_cons (xCk_V mX7_no 7 (by decide) (by decide) (by decide) rfl (fun as σ h _ => rX7_no as σ h) w_X7_136 ⟨by decide, by decide, by decide +kernel⟩) xcal_nil)) ?_ ?_
  · rintro av σ ⟨n, rfl, hpre⟩
    exact Nat.le_of_ble_eq_true rfl
  rintro av σ ⟨n, rfl, ⟨hp1, hp2, hp3⟩⟩ Rt hR
  have hR2 := hR2_g (Rt := Rt) (F := beaM σ n) (fun r s' => by rw [hR, fX7_beat_e])
  refine xgo0 16 ?_
  simp -implicitDefEqProofs only [xwp_2, xwp_0, xwp_1, xws_s, xdd_o, xld_0, xld_s, xs1_0, xs1_1, xs1_s, xs2_0, xs2_1, xs2_s, xlg_n, xlg_i, xlg_r, xlg_z, xlg_l, xf4_0, xf4_1, xf4_2, xf4_3, xgo_e, xcmp_eq, xcmp_ne, xcmp_lt, xcmp_ge, xcmp_gt, xcmp_le, xfg_0, xfg_1, xfg_2, xfg_3, xfg_4, xpop_0, xpop_s, xsw_n, xsw_c, xtb_n, xtb_c, xenp_n, xenp_i, xenp_r, xenp_z, xenp_l, xrep_0, xrep_s, Nat.reduceSub, true_and, and_true, cat_i, cat_r, Nat.reduceAdd, Nat.reduceLT, Nat.reduceLeDiff, Nat.reduceEqDiff, xnc, Int.reduceAdd, Int.reduceSub, Int.reduceNeg, Int.reduceLE, Int.reduceLT, Int.reduceToNat, ↓reduceIte, List.length_cons, List.length_nil, xlc0, xlc1, ite_10, i10, i01, i0_2, i0_3, i0_4, i0_6, i0_7, i0_8, i0_49, i0_10, or_true, true_or, or_false, false_or, not_false_eq_true, not_true_eq_false, xnt, xI_g, eq_self, xI_2, xJ_1, false_and, and_false, obM_t, rMi, vp_tn, tn_def, lgc, nI8, nI6, nI160, nI20, nI401, nI49, aM_6, aM_7, aM_8, aM_9, aM_10, aM_11, aM_12, aM_13, aM_14, aM_15, aM_16, aM_17, aM_18, aM_19, aM_20, aM_21, aM_22, aM_23, aM_24, aM_25, aM_26, aM_27, aM_28, aM_29, aM_30, aM_31, aM_38, aM_39, aM_40, aM_41, aM_42, aM_43, aM_44, aM_45, aM_46, aM_47, lM_6, lM_7, lM_8, lM_9, lM_10, lM_11, lM_12, lM_13, lM_14, lM_15, lM_16, lM_17, lM_18, lM_19, lM_20, lM_21, lM_22, lM_23, lM_24, lM_25, lM_26, lM_27, lM_28, lM_29, lM_30, lM_31, lM_38, lM_39, lM_40, lM_41, lM_42, lM_43, lM_44, lM_45, lM_46, lM_47, dX7_beat_0, st_iload_n, dX7_beat_1, st_iconst, dX7_beat_2, st_if_icmp, dX7_beat_5, dX7_beat_6, st_bipush, dX7_beat_8, dX7_beat_11, st_aload_n, dX7_beat_12, dX7_beat_13, st_invokevirtual, dX7_beat_16, st_goto, dX7_beat_19, dX7_beat_20, dX7_beat_22, dX7_beat_25, st_ireturn, c_X7_beat_238, pX7_goesOn_e, fX7_goesOn_e, Option.toList_some, Option.toList_none, List.cons_append, List.nil_append, c_X7_beat_136, pX7_no_e, fX7_no_e, ofJ_1, ofI_99, ofI_m6, hp1, hp2, hp3, nbP_1, nbP_2, nbP_3, nbP_4, nbP_5, nbP_6, nbP_7]
  clear hR
  simp only [hR2, beaM, noM]
  clear hR2 hp3
  grind (splits := 40)
theorem rX7_beat : ∀ as σ, pX7_beat as σ → ∃ K as', as = .ref K :: as' ∧ xob WM K 7 := by
  rintro as σ ⟨n, rfl, hpre⟩
  exact ⟨_, _, rfl, by first | exact hpre | exact hpre.1 | exact obT hpre | exact obT hpre.1 | exact obS hpre | exact obS hpre.1 | exact obM | exact ob6 | exact ob2 | exact ob0⟩
