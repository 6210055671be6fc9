def wlkM (σ : xS) (k p d g a : Int32) : Int32 × xS := if k < 0 ∨ 6 < k ∨ ¬ (0 ≤ g ∧ g < σ.1 0 0) then noM σ (-1) else if ¬ (0 ≤ p ∧ p < 49) ∨ d < 0 ∨ 3 < d ∨ a < 0 ∨ 9 < a ∨ σ.1 10 (tn p) = 1 then noM σ (-6) else if σ.1 0 1 = 6 then noM σ (-7) else (σ.1 0 1, adM σ k p d g a)
def wkoM (σ : xS) (x y : Int32) : Int32 × xS := if ¬ (0 ≤ x ∧ x < σ.1 0 1) ∨ y < 0 ∨ 6 < y then noM σ (-5) else if y = 0 then (σ.1 11 (tn x), σ) else if y = 6 then (σ.1 12 (tn x), σ) else (ofM σ (tn x) (y - 1), σ)
def walM (σ : xS) (p b : Int32) : Int32 × xS := if ¬ (0 ≤ p ∧ p < 49) ∨ (¬ b = 0 ∧ itM σ p = true) then noM σ (-6) else ((if σ.1 10 (tn p) = (if b = 0 then 0 else 1) then 0 else 1), xI σ 10 (tn p) (if b = 0 then 0 else 1))
def gofM (σ : xS) (g x : Int32) : Int32 × xS := if ¬ (0 ≤ g ∧ g < σ.1 0 0) then ntM σ (-5) else if x = -1 then (σ.1 8 (tn g), σ) else if x = -2 then (σ.1 9 (tn g), σ) else if 0 ≤ x ∧ x < σ.1 8 (tn g) then (σ.1 7 (tn (8 * g + x)), σ) else ntM σ (-5)
def elM (σ : xS) (s i : Int32) : Int64 := if (0 ≤ s ∧ s < 8) ∧ σ.1 23 (tn s) = 1 ∧ 0 ≤ i ∧ i < σ.1 25 (tn s) then σ.2 27 (tn (160 * s + i)) else 0
theorem ix8 {s i : Int32} (hs : 0 ≤ s ∧ s < 8) (hi : 0 ≤ i ∧ i < 160) : 0 ≤ 160 * s + i ∧ tn (160 * s + i) < 1280 := by
  have a1 := t_le.mp hs.1
  have a2 := t_lt.mp hs.2
  have a3 := t_le.mp hi.1
  have a4 := t_lt.mp hi.2
  have e0 : (0 : Int32).toInt = 0 := rfl
  have e8 : (8 : Int32).toInt = 8 := rfl
  have e160 : (160 : Int32).toInt = 160 := rfl
  rw [e0] at a1 a3
  rw [e8] at a2
  rw [e160] at a4
  have m : (160 * s).toInt = 160 * s.toInt := by rw [t_mul (by rw [e160]; omega) (by rw [e160]; omega), e160]
  have q : (160 * s + i).toInt = 160 * s.toInt + i.toInt := by rw [t_add (by rw [m]; omega) (by rw [m]; omega), m]
  constructor
  · rw [t_le, q, e0]; omega
  · rw [t_tn, q]; omega
theorem ixs {g x : Int32} (hg : 0 ≤ g ∧ g < 8) (hx : 0 ≤ x ∧ x < 8) : 0 ≤ 8 * g + x ∧ tn (8 * g + x) < 64 := by
  have a1 := t_le.mp hg.1
  have a2 := t_lt.mp hg.2
  have a3 := t_le.mp hx.1
  have a4 := t_lt.mp hx.2
  have e0 : (0 : Int32).toInt = 0 := rfl
  have e8 : (8 : Int32).toInt = 8 := rfl
  rw [e0] at a1 a3
  rw [e8] at a2 a4
  have m : (8 * g).toInt = 8 * g.toInt := by rw [t_mul (by rw [e8]; omega) (by rw [e8]; omega), e8]
  have q : (8 * g + x).toInt = 8 * g.toInt + x.toInt := by rw [t_add (by rw [m]; omega) (by rw [m]; omega), m]
  constructor
  · rw [t_le, q, e0]; omega
  · rw [t_tn, q]; omega
theorem lt_le {a b c : Int32} (h : a < b) (h2 : b ≤ c) : a < c := by
  have a1 := t_lt.mp h
  have a2 := t_le.mp h2
  rw [t_lt]
  omega
def pX7_walker (as : List Value) (σ : xS) : Prop := ∃ (k : Int32) (p : Int32) (d : Int32) (g : Int32) (a : Int32), as = [.ref 0, .int k, .int p, .int d, .int g, .int a] ∧ ((0 ≤ σ.1 0 1) ∧ (σ.1 0 1 ≤ 6))
def fX7_walker (as : List Value) (σ : xS) : Option Value × xS := match as with
  | [.ref 0, .int k, .int p, .int d, .int g, .int a] => (some (.int (wlkM σ k p d g a).1), (wlkM σ k p d g a).2)
  | _ => (none, σ)
theorem pX7_walker_e {k : Int32} {p : Int32} {d : Int32} {g : Int32} {a : Int32} {σ : xS} : pX7_walker [.ref 0, .int k, .int p, .int d, .int g, .int a] σ = ((0 ≤ σ.1 0 1) ∧ (σ.1 0 1 ≤ 6)) := propext ⟨fun h => by obtain ⟨k, p, d, g, a, e, h⟩ := h; cases e; exact h, fun h => ⟨k, p, d, g, a, rfl, h⟩⟩
theorem fX7_walker_e {k : Int32} {p : Int32} {d : Int32} {g : Int32} {a : Int32} {σ : xS} : fX7_walker [.ref 0, .int k, .int p, .int d, .int g, .int a] σ = (some (.int (wlkM σ k p d g a).1), (wlkM σ k p d g a).2) := rfl
def calX7_walker : List (Nat × xCall) := [(161, (false, 2, pX7_isGait, fX7_isGait)), (136, (false, 2, pX7_no, fX7_no)), (167, (false, 2, pX7_isPlace, fX7_isPlace)), (170, (false, 6, pX7_adds, fX7_adds))]
theorem c_X7_walker_161 : xlk calX7_walker 161 = some (false, 2, pX7_isGait, fX7_isGait) := rfl
theorem c_X7_walker_136 : xlk calX7_walker 136 = some (false, 2, pX7_no, fX7_no) := rfl
theorem c_X7_walker_167 : xlk calX7_walker 167 = some (false, 2, pX7_isPlace, fX7_isPlace) := rfl
theorem c_X7_walker_170 : xlk calX7_walker 170 = some (false, 6, pX7_adds, fX7_adds) := rfl
set_option maxHeartbeats 4000000 in
set_option maxRecDepth 100000 in
theorem mX7_walker : xMet WM yX7_walker cX7_walker 6 (some .int) 2 pX7_walker fX7_walker := by
  refine xMet_of (fld := xlk fldX7) (cal := xlk calX7_walker) (ks := xlk []) (gs := xlk []) (ro := fun _ => none) 0 (by decide) WM_nd rfl fldX7_ok xKs_nil xGs_nil (Or.inr rfl) (xcal_cons (xCk_V mX7_isGait 7 (by decide) (by decide) (by decide) rfl (fun as σ h _ => rX7_isGait as σ h) w_X7_161 ⟨by decide, by decide, by decide +kernel⟩) (xcal_cons (xCk_V mX7_no 7 (by decide) (by decide) (by decide) rfl (fun as σ h _ => rX7_no as σ h) w_X7_136 ⟨by decide, by decide, by decide +kernel⟩) (xcal_cons (xCk_V mX7_isPlace 7 (by decide) (by decide) (by decide) rfl (fun as σ h _ => rX7_isPlace as σ h) w_X7_167 ⟨by decide, by decide, by decide +kernel⟩) (xcal_cons (xCk_V mX7_adds 7 (by decide) (by decide) (by decide) rfl (fun as σ h _ => rX7_adds as σ h) w_X7_170 ⟨by decide, by decide, by decide +kernel⟩) xcal_nil)))) ?_ ?_
  · rintro av σ ⟨k, p, d, g, a, rfl, hpre⟩
    exact Nat.le_of_ble_eq_true rfl
  rintro av σ ⟨k, p, d, g, a, rfl, ⟨hp1, hp2⟩⟩ Rt hR
  have hR2 := hR2_g (Rt := Rt) (F := wlkM σ k p d g a) (fun r s' => by rw [hR, fX7_walker_e])
  have h49 : 0 ≤ p ∧ p < 49 → tn p < 49 := tn49
  have h6 : ¬ σ.1 0 1 = 6 → σ.1 0 1 < 6 := fun h => by
    rw [t_lt]
    have := t_le.mp hp2
    have e : (6 : Int32).toInt = 6 := rfl
    have n : ¬ (σ.1 0 1).toInt = (6 : Int32).toInt := fun q => h (Int32.toInt_inj.mp q)
    omega
  refine xgo0 55 ?_
  simp -implicitDefEqProofs only [xwp_2, xwp_0, xwp_1, xws_s, xdd_o, xld_0, xld_s, xs1_0, xs1_1, xs1_s, xs2_0, xs2_1, xs2_s, xlg_n, xlg_i, xlg_r, xlg_z, xlg_l, xf4_0, xf4_1, xf4_2, xf4_3, xgo_e, xcmp_eq, xcmp_ne, xcmp_lt, xcmp_ge, xcmp_gt, xcmp_le, xfg_0, xfg_1, xfg_2, xfg_3, xfg_4, xpop_0, xpop_s, xsw_n, xsw_c, xtb_n, xtb_c, xenp_n, xenp_i, xenp_r, xenp_z, xenp_l, xrep_0, xrep_s, Nat.reduceSub, true_and, and_true, cat_i, cat_r, Nat.reduceAdd, Nat.reduceLT, Nat.reduceLeDiff, Nat.reduceEqDiff, xnc, Int.reduceAdd, Int.reduceSub, Int.reduceNeg, Int.reduceLE, Int.reduceLT, Int.reduceToNat, ↓reduceIte, List.length_cons, List.length_nil, xlc0, xlc1, ite_10, i10, i01, i0_2, i0_3, i0_4, i0_6, i0_7, i0_8, i0_49, i0_10, or_true, true_or, or_false, false_or, not_false_eq_true, not_true_eq_false, xnt, xI_g, eq_self, xI_2, xJ_1, false_and, and_false, obM_t, rMi, vp_tn, tn_def, lgc, nI8, nI6, nI160, nI20, nI401, nI49, aM_6, aM_7, aM_8, aM_9, aM_10, aM_11, aM_12, aM_13, aM_14, aM_15, aM_16, aM_17, aM_18, aM_19, aM_20, aM_21, aM_22, aM_23, aM_24, aM_25, aM_26, aM_27, aM_28, aM_29, aM_30, aM_31, aM_38, aM_39, aM_40, aM_41, aM_42, aM_43, aM_44, aM_45, aM_46, aM_47, lM_6, lM_7, lM_8, lM_9, lM_10, lM_11, lM_12, lM_13, lM_14, lM_15, lM_16, lM_17, lM_18, lM_19, lM_20, lM_21, lM_22, lM_23, lM_24, lM_25, lM_26, lM_27, lM_28, lM_29, lM_30, lM_31, lM_38, lM_39, lM_40, lM_41, lM_42, lM_43, lM_44, lM_45, lM_46, lM_47, dX7_walker_0, st_iload_n, dX7_walker_1, st_ifCond, dX7_walker_4, dX7_walker_5, st_bipush, dX7_walker_7, st_if_icmp, dX7_walker_10, st_aload_n, dX7_walker_11, st_iload, dX7_walker_13, st_invokevirtual, dX7_walker_16, dX7_walker_19, dX7_walker_20, st_iconst, dX7_walker_21, dX7_walker_24, st_ireturn, dX7_walker_25, dX7_walker_26, dX7_walker_27, dX7_walker_30, dX7_walker_33, dX7_walker_34, dX7_walker_37, dX7_walker_38, dX7_walker_39, dX7_walker_42, dX7_walker_44, dX7_walker_47, dX7_walker_49, dX7_walker_51, dX7_walker_54, dX7_walker_55, st_getfield, fl_X7_29, dX7_walker_58, dX7_walker_59, st_iaload, dX7_walker_60, dX7_walker_61, dX7_walker_64, dX7_walker_65, dX7_walker_67, dX7_walker_70, dX7_walker_71, dX7_walker_72, fl_X7_126, dX7_walker_75, dX7_walker_77, dX7_walker_80, dX7_walker_81, dX7_walker_83, dX7_walker_86, st_goto, dX7_walker_89, dX7_walker_90, dX7_walker_91, dX7_walker_92, dX7_walker_93, dX7_walker_95, dX7_walker_97, dX7_walker_100, c_X7_walker_161, pX7_isGait_e, fX7_isGait_e, Option.toList_some, Option.toList_none, List.cons_append, List.nil_append, c_X7_walker_136, pX7_no_e, fX7_no_e, c_X7_walker_167, pX7_isPlace_e, fX7_isPlace_e, c_X7_walker_170, pX7_adds_e, fX7_adds_e, ofI_6, ofI_m1, ofJ_3, ofI_9, ofJ_1, ofI_m6, ofI_m7, hp1, hp2, nbP_1, nbP_2, nbP_3, nbP_4, nbP_5, nbP_6, nbP_7]
  clear hR
  simp only [hR2, wlkM, noM]
  clear hR2
  grind (splits := 40)
theorem rX7_walker : ∀ as σ, pX7_walker as σ → ∃ K as', as = .ref K :: as' ∧ xob WM K 7 := by
  rintro as σ ⟨k, p, d, g, a, rfl, hpre⟩
  exact ⟨_, _, rfl, by first | exact hpre | exact hpre.1 | exact obT hpre | exact obT hpre.1 | exact obS hpre | exact obS hpre.1 | exact obM | exact ob6 | exact ob2 | exact ob0⟩
def pX7_walkerOf (as : List Value) (σ : xS) : Prop := ∃ (x : Int32) (y : Int32), as = [.ref 0, .int x, .int y] ∧ (σ.1 0 1 ≤ 6)
def fX7_walkerOf (as : List Value) (σ : xS) : Option Value × xS := match as with
  | [.ref 0, .int x, .int y] => (some (.int (wkoM σ x y).1), (wkoM σ x y).2)
  | _ => (none, σ)
theorem pX7_walkerOf_e {x : Int32} {y : Int32} {σ : xS} : pX7_walkerOf [.ref 0, .int x, .int y] σ = (σ.1 0 1 ≤ 6) := propext ⟨fun h => by obtain ⟨x, y, e, h⟩ := h; cases e; exact h, fun h => ⟨x, y, rfl, h⟩⟩
theorem fX7_walkerOf_e {x : Int32} {y : Int32} {σ : xS} : fX7_walkerOf [.ref 0, .int x, .int y] σ = (some (.int (wkoM σ x y).1), (wkoM σ x y).2) := rfl
def calX7_walkerOf : List (Nat × xCall) := [(140, (false, 2, pX7_isWalker, fX7_isWalker)), (136, (false, 2, pX7_no, fX7_no)), (174, (false, 3, pX7_of, fX7_of))]
theorem c_X7_walkerOf_140 : xlk calX7_walkerOf 140 = some (false, 2, pX7_isWalker, fX7_isWalker) := rfl
theorem c_X7_walkerOf_136 : xlk calX7_walkerOf 136 = some (false, 2, pX7_no, fX7_no) := rfl
theorem c_X7_walkerOf_174 : xlk calX7_walkerOf 174 = some (false, 3, pX7_of, fX7_of) := rfl
set_option maxHeartbeats 4000000 in
set_option maxRecDepth 100000 in
theorem mX7_walkerOf : xMet WM yX7_walkerOf cX7_walkerOf 3 (some .int) 2 pX7_walkerOf fX7_walkerOf := by
  refine xMet_of (fld := xlk fldX7) (cal := xlk calX7_walkerOf) (ks := xlk []) (gs := xlk []) (ro := fun _ => none) 0 (by decide) WM_nd rfl fldX7_ok xKs_nil xGs_nil (Or.inr rfl) (xcal_cons (xCk_V mX7_isWalker 7 (by decide) (by decide) (by decide) rfl (fun as σ h _ => rX7_isWalker as σ h) w_X7_140 ⟨by decide, by decide, by decide +kernel⟩) (xcal_cons (xCk_V mX7_no 7 (by decide) (by decide) (by decide) rfl (fun as σ h _ => rX7_no as σ h) w_X7_136 ⟨by decide, by decide, by decide +kernel⟩) (xcal_cons (xCk_V mX7_of 7 (by decide) (by decide) (by decide) rfl (fun as σ h _ => rX7_of as σ h) w_X7_174 ⟨by decide, by decide, by decide +kernel⟩) xcal_nil))) ?_ ?_
  · rintro av σ ⟨x, y, rfl, hpre⟩
    exact Nat.le_of_ble_eq_true rfl
  rintro av σ ⟨x, y, rfl, hp1⟩ Rt hR
  have hR2 := hR2_g (Rt := Rt) (F := wkoM σ x y) (fun r s' => by rw [hR, fX7_walkerOf_e])
  have h6 : 0 ≤ x ∧ x < σ.1 0 1 → 0 ≤ x ∧ tn x < 6 := fun h => ⟨h.1, tn6 h hp1⟩
  refine xgo0 34 ?_
  simp -implicitDefEqProofs only [xwp_2, xwp_0, xwp_1, xws_s, xdd_o, xld_0, xld_s, xs1_0, xs1_1, xs1_s, xs2_0, xs2_1, xs2_s, xlg_n, xlg_i, xlg_r, xlg_z, xlg_l, xf4_0, xf4_1, xf4_2, xf4_3, xgo_e, xcmp_eq, xcmp_ne, xcmp_lt, xcmp_ge, xcmp_gt, xcmp_le, xfg_0, xfg_1, xfg_2, xfg_3, xfg_4, xpop_0, xpop_s, xsw_n, xsw_c, xtb_n, xtb_c, xenp_n, xenp_i, xenp_r, xenp_z, xenp_l, xrep_0, xrep_s, Nat.reduceSub, true_and, and_true, cat_i, cat_r, Nat.reduceAdd, Nat.reduceLT, Nat.reduceLeDiff, Nat.reduceEqDiff, xnc, Int.reduceAdd, Int.reduceSub, Int.reduceNeg, Int.reduceLE, Int.reduceLT, Int.reduceToNat, ↓reduceIte, List.length_cons, List.length_nil, xlc0, xlc1, ite_10, i10, i01, i0_2, i0_3, i0_4, i0_6, i0_7, i0_8, i0_49, i0_10, or_true, true_or, or_false, false_or, not_false_eq_true, not_true_eq_false, xnt, xI_g, eq_self, xI_2, xJ_1, false_and, and_false, obM_t, rMi, vp_tn, tn_def, lgc, nI8, nI6, nI160, nI20, nI401, nI49, aM_6, aM_7, aM_8, aM_9, aM_10, aM_11, aM_12, aM_13, aM_14, aM_15, aM_16, aM_17, aM_18, aM_19, aM_20, aM_21, aM_22, aM_23, aM_24, aM_25, aM_26, aM_27, aM_28, aM_29, aM_30, aM_31, aM_38, aM_39, aM_40, aM_41, aM_42, aM_43, aM_44, aM_45, aM_46, aM_47, lM_6, lM_7, lM_8, lM_9, lM_10, lM_11, lM_12, lM_13, lM_14, lM_15, lM_16, lM_17, lM_18, lM_19, lM_20, lM_21, lM_22, lM_23, lM_24, lM_25, lM_26, lM_27, lM_28, lM_29, lM_30, lM_31, lM_38, lM_39, lM_40, lM_41, lM_42, lM_43, lM_44, lM_45, lM_46, lM_47, dX7_walkerOf_0, st_aload_n, dX7_walkerOf_1, st_iload_n, dX7_walkerOf_2, st_invokevirtual, dX7_walkerOf_5, st_ifCond, dX7_walkerOf_8, dX7_walkerOf_9, dX7_walkerOf_12, dX7_walkerOf_13, st_bipush, dX7_walkerOf_15, st_if_icmp, dX7_walkerOf_18, dX7_walkerOf_19, dX7_walkerOf_21, dX7_walkerOf_24, st_ireturn, dX7_walkerOf_25, dX7_walkerOf_26, st_lookupswitch, dX7_walkerOf_52, dX7_walkerOf_53, st_getfield, fl_X7_32, dX7_walkerOf_56, dX7_walkerOf_57, st_iaload, dX7_walkerOf_58, dX7_walkerOf_59, dX7_walkerOf_60, fl_X7_35, dX7_walkerOf_63, dX7_walkerOf_64, dX7_walkerOf_65, dX7_walkerOf_66, dX7_walkerOf_67, dX7_walkerOf_68, dX7_walkerOf_69, st_iconst, dX7_walkerOf_70, st_isub, dX7_walkerOf_71, dX7_walkerOf_74, c_X7_walkerOf_140, pX7_isWalker_e, fX7_isWalker_e, Option.toList_some, Option.toList_none, List.cons_append, List.nil_append, c_X7_walkerOf_136, pX7_no_e, fX7_no_e, c_X7_walkerOf_174, pX7_of_e, fX7_of_e, ofI_6, ofI_m5, ofI_m2, ofI_m1, ofI_0, ofJ_1, ofJ_2, ofJ_3, ofI_4, ofI_5, ofI_7, ofI_8, ofI_9, ofI_10, ofI_11, hp1, nbP_1, nbP_2, nbP_3, nbP_4, nbP_5, nbP_6, nbP_7, xsrt]
  clear hR
  simp only [hR2, wkoM, noM]
  clear hR2
  grind (splits := 40)
theorem rX7_walkerOf : ∀ as σ, pX7_walkerOf as σ → ∃ K as', as = .ref K :: as' ∧ xob WM K 7 := by
  rintro as σ ⟨x, y, rfl, hpre⟩
  exact ⟨_, _, rfl, by first | exact hpre | exact hpre.1 | exact obT hpre | exact obT hpre.1 | exact obS hpre | exact obS hpre.1 | exact obM | exact ob6 | exact ob2 | exact ob0⟩
def pX7_gaitOf (as : List Value) (σ : xS) : Prop := ∃ (g : Int32) (x : Int32), as = [.ref 0, .int g, .int x] ∧ ((σ.1 0 0 ≤ 8) ∧ (∀ g, (0 ≤ g ∧ g < σ.1 0 0) → σ.1 8 (tn g) ≤ 8))
def fX7_gaitOf (as : List Value) (σ : xS) : Option Value × xS := match as with
  | [.ref 0, .int g, .int x] => (some (.int (gofM σ g x).1), (gofM σ g x).2)
  | _ => (none, σ)
theorem pX7_gaitOf_e {g : Int32} {x : Int32} {σ : xS} : pX7_gaitOf [.ref 0, .int g, .int x] σ = ((σ.1 0 0 ≤ 8) ∧ (∀ g, (0 ≤ g ∧ g < σ.1 0 0) → σ.1 8 (tn g) ≤ 8)) := propext ⟨fun h => by obtain ⟨g, x, e, h⟩ := h; cases e; exact h, fun h => ⟨g, x, rfl, h⟩⟩
theorem fX7_gaitOf_e {g : Int32} {x : Int32} {σ : xS} : fX7_gaitOf [.ref 0, .int g, .int x] σ = (some (.int (gofM σ g x).1), (gofM σ g x).2) := rfl
def calX7_gaitOf : List (Nat × xCall) := [(161, (false, 2, pX7_isGait, fX7_isGait)), (164, (false, 2, pX7_noTen, fX7_noTen))]
theorem c_X7_gaitOf_161 : xlk calX7_gaitOf 161 = some (false, 2, pX7_isGait, fX7_isGait) := rfl
theorem c_X7_gaitOf_164 : xlk calX7_gaitOf 164 = some (false, 2, pX7_noTen, fX7_noTen) := rfl
set_option maxHeartbeats 4000000 in
set_option maxRecDepth 100000 in
theorem mX7_gaitOf : xMet WM yX7_gaitOf cX7_gaitOf 3 (some .int) 2 pX7_gaitOf fX7_gaitOf := by
  refine xMet_of (fld := xlk fldX7) (cal := xlk calX7_gaitOf) (ks := xlk []) (gs := xlk []) (ro := fun _ => none) 0 (by decide) WM_nd rfl fldX7_ok xKs_nil xGs_nil (Or.inr rfl) (xcal_cons (xCk_V mX7_isGait 7 (by decide) (by decide) (by decide) rfl (fun as σ h _ => rX7_isGait as σ h) w_X7_161 ⟨by decide, by decide, by decide +kernel⟩) (xcal_cons (xCk_V mX7_noTen 7 (by decide) (by decide) (by decide) rfl (fun as σ h _ => rX7_noTen as σ h) w_X7_164 ⟨by decide, by decide, by decide +kernel⟩) xcal_nil)) ?_ ?_
  · rintro av σ ⟨g, x, rfl, hpre⟩
    exact Nat.le_of_ble_eq_true rfl
  rintro av σ ⟨g, x, rfl, ⟨hp1, hp2⟩⟩ Rt hR
  have hR2 := hR2_g (Rt := Rt) (F := gofM σ g x) (fun r s' => by rw [hR, fX7_gaitOf_e])
  have h8 : 0 ≤ g ∧ g < σ.1 0 0 → tn g < 8 := fun h => tn8 ⟨h.1, lt_le h.2 hp1⟩
  have h9 : 0 ≤ g ∧ g < σ.1 0 0 → 0 ≤ x ∧ x < σ.1 8 (tn g) → 0 ≤ 8 * g + x ∧ tn (8 * g + x) < 64 := fun h h2 => ixs ⟨h.1, lt_le h.2 hp1⟩ ⟨h2.1, lt_le h2.2 (hp2 g h)⟩
  refine xgo0 47 ?_
  simp -implicitDefEqProofs only [xwp_2, xwp_0, xwp_1, xws_s, xdd_o, xld_0, xld_s, xs1_0, xs1_1, xs1_s, xs2_0, xs2_1, xs2_s, xlg_n, xlg_i, xlg_r, xlg_z, xlg_l, xf4_0, xf4_1, xf4_2, xf4_3, xgo_e, xcmp_eq, xcmp_ne, xcmp_lt, xcmp_ge, xcmp_gt, xcmp_le, xfg_0, xfg_1, xfg_2, xfg_3, xfg_4, xpop_0, xpop_s, xsw_n, xsw_c, xtb_n, xtb_c, xenp_n, xenp_i, xenp_r, xenp_z, xenp_l, xrep_0, xrep_s, Nat.reduceSub, true_and, and_true, cat_i, cat_r, Nat.reduceAdd, Nat.reduceLT, Nat.reduceLeDiff, Nat.reduceEqDiff, xnc, Int.reduceAdd, Int.reduceSub, Int.reduceNeg, Int.reduceLE, Int.reduceLT, Int.reduceToNat, ↓reduceIte, List.length_cons, List.length_nil, xlc0, xlc1, ite_10, i10, i01, i0_2, i0_3, i0_4, i0_6, i0_7, i0_8, i0_49, i0_10, or_true, true_or, or_false, false_or, not_false_eq_true, not_true_eq_false, xnt, xI_g, eq_self, xI_2, xJ_1, false_and, and_false, obM_t, rMi, vp_tn, tn_def, lgc, nI8, nI6, nI160, nI20, nI401, nI49, aM_6, aM_7, aM_8, aM_9, aM_10, aM_11, aM_12, aM_13, aM_14, aM_15, aM_16, aM_17, aM_18, aM_19, aM_20, aM_21, aM_22, aM_23, aM_24, aM_25, aM_26, aM_27, aM_28, aM_29, aM_30, aM_31, aM_38, aM_39, aM_40, aM_41, aM_42, aM_43, aM_44, aM_45, aM_46, aM_47, lM_6, lM_7, lM_8, lM_9, lM_10, lM_11, lM_12, lM_13, lM_14, lM_15, lM_16, lM_17, lM_18, lM_19, lM_20, lM_21, lM_22, lM_23, lM_24, lM_25, lM_26, lM_27, lM_28, lM_29, lM_30, lM_31, lM_38, lM_39, lM_40, lM_41, lM_42, lM_43, lM_44, lM_45, lM_46, lM_47, dX7_gaitOf_0, st_aload_n, dX7_gaitOf_1, st_iload_n, dX7_gaitOf_2, st_invokevirtual, dX7_gaitOf_5, st_ifCond, dX7_gaitOf_8, dX7_gaitOf_9, st_bipush, dX7_gaitOf_11, dX7_gaitOf_14, st_ireturn, dX7_gaitOf_15, dX7_gaitOf_16, st_iconst, dX7_gaitOf_17, st_if_icmp, dX7_gaitOf_20, dX7_gaitOf_21, st_getfield, fl_X7_23, dX7_gaitOf_24, dX7_gaitOf_25, st_iaload, dX7_gaitOf_26, dX7_gaitOf_27, dX7_gaitOf_28, dX7_gaitOf_30, dX7_gaitOf_33, dX7_gaitOf_34, fl_X7_26, dX7_gaitOf_37, dX7_gaitOf_38, dX7_gaitOf_39, dX7_gaitOf_40, dX7_gaitOf_41, dX7_gaitOf_44, dX7_gaitOf_45, dX7_gaitOf_46, dX7_gaitOf_49, dX7_gaitOf_50, dX7_gaitOf_51, dX7_gaitOf_54, dX7_gaitOf_55, fl_X7_20, dX7_gaitOf_58, dX7_gaitOf_60, dX7_gaitOf_61, st_imul, dX7_gaitOf_62, dX7_gaitOf_63, st_iadd, dX7_gaitOf_64, dX7_gaitOf_65, st_goto, dX7_gaitOf_68, dX7_gaitOf_69, dX7_gaitOf_71, dX7_gaitOf_74, c_X7_gaitOf_161, pX7_isGait_e, fX7_isGait_e, Option.toList_some, Option.toList_none, List.cons_append, List.nil_append, c_X7_gaitOf_164, pX7_noTen_e, fX7_noTen_e, ofI_m5, ofI_m1, ofI_m2, ofI_8, hp1, hp2, nbP_1, nbP_2, nbP_3, nbP_4, nbP_5, nbP_6, nbP_7]
  clear hR
  simp only [hR2, gofM, ntM]
  clear hR2 hp2
  generalize tn (8 * g + x) = ix at *
  generalize 8 * g + x = iy at *
  grind (splits := 40)
theorem rX7_gaitOf : ∀ as σ, pX7_gaitOf as σ → ∃ K as', as = .ref K :: as' ∧ xob WM K 7 := by
  rintro as σ ⟨g, x, rfl, hpre⟩
  exact ⟨_, _, rfl, by first | exact hpre | exact hpre.1 | exact obT hpre | exact obT hpre.1 | exact obS hpre | exact obS hpre.1 | exact obM | exact ob6 | exact ob2 | exact ob0⟩
def pX7_element (as : List Value) (σ : xS) : Prop := ∃ (s : Int32) (i : Int32), as = [.ref 0, .int s, .int i] ∧ (∀ s, (0 ≤ s ∧ s < 8) → σ.1 25 (tn s) ≤ 160)
def fX7_element (as : List Value) (σ : xS) : Option Value × xS := match as with
  | [.ref 0, .int s, .int i] => (some (.long (elM σ s i)), σ)
  | _ => (none, σ)
theorem pX7_element_e {s : Int32} {i : Int32} {σ : xS} : pX7_element [.ref 0, .int s, .int i] σ = (∀ s, (0 ≤ s ∧ s < 8) → σ.1 25 (tn s) ≤ 160) := propext ⟨fun h => by obtain ⟨s, i, e, h⟩ := h; cases e; exact h, fun h => ⟨s, i, rfl, h⟩⟩
theorem fX7_element_e {s : Int32} {i : Int32} {σ : xS} : fX7_element [.ref 0, .int s, .int i] σ = (some (.long (elM σ s i)), σ) := rfl
def calX7_element : List (Nat × xCall) := [(132, (false, 2, pX7_isShelf, fX7_isShelf))]
theorem c_X7_element_132 : xlk calX7_element 132 = some (false, 2, pX7_isShelf, fX7_isShelf) := rfl
set_option maxHeartbeats 4000000 in
set_option maxRecDepth 100000 in
theorem mX7_element : xMet WM yX7_element cX7_element 3 (some .long) 2 pX7_element fX7_element := by
  refine xMet_of (fld := xlk fldX7) (cal := xlk calX7_element) (ks := xlk []) (gs := xlk []) (ro := fun _ => none) 2 (by decide) WM_nd rfl fldX7_ok xKs_nil xGs_nil (Or.inr rfl) (xcal_cons (xCk_V mX7_isShelf 7 (by decide) (by decide) (by decide) rfl (fun as σ h _ => rX7_isShelf as σ h) w_X7_132 ⟨by decide, by decide, by decide +kernel⟩) xcal_nil) ?_ ?_
  · rintro av σ ⟨s, i, rfl, hpre⟩
    exact Nat.le_of_ble_eq_true rfl
  rintro av σ ⟨s, i, rfl, hp1⟩ Rt hR
  have h8 : 0 ≤ s ∧ s < 8 → tn s < 8 := tn8
  have h9 : 0 ≤ s ∧ s < 8 → 0 ≤ i ∧ i < σ.1 25 (tn s) → 0 ≤ 160 * s + i ∧ tn (160 * s + i) < 1280 := fun h h2 => ix8 h ⟨h2.1, lt_le h2.2 (hp1 s h)⟩
  refine xgo0 31 ?_
  simp -implicitDefEqProofs only [xwp_2, xwp_0, xwp_1, xws_s, xdd_o, xld_0, xld_s, xs1_0, xs1_1, xs1_s, xs2_0, xs2_1, xs2_s, xlg_n, xlg_i, xlg_r, xlg_z, xlg_l, xf4_0, xf4_1, xf4_2, xf4_3, xgo_e, xcmp_eq, xcmp_ne, xcmp_lt, xcmp_ge, xcmp_gt, xcmp_le, xfg_0, xfg_1, xfg_2, xfg_3, xfg_4, xpop_0, xpop_s, xsw_n, xsw_c, xtb_n, xtb_c, xenp_n, xenp_i, xenp_r, xenp_z, xenp_l, xrep_0, xrep_s, Nat.reduceSub, true_and, and_true, cat_i, cat_r, Nat.reduceAdd, Nat.reduceLT, Nat.reduceLeDiff, Nat.reduceEqDiff, xnc, Int.reduceAdd, Int.reduceSub, Int.reduceNeg, Int.reduceLE, Int.reduceLT, Int.reduceToNat, ↓reduceIte, List.length_cons, List.length_nil, xlc0, xlc1, ite_10, i10, i01, i0_2, i0_3, i0_4, i0_6, i0_7, i0_8, i0_49, i0_10, or_true, true_or, or_false, false_or, not_false_eq_true, not_true_eq_false, xnt, xI_g, eq_self, xI_2, xJ_1, false_and, and_false, obM_t, rMi, vp_tn, tn_def, lgc, nI8, nI6, nI160, nI20, nI401, nI49, aM_6, aM_7, aM_8, aM_9, aM_10, aM_11, aM_12, aM_13, aM_14, aM_15, aM_16, aM_17, aM_18, aM_19, aM_20, aM_21, aM_22, aM_23, aM_24, aM_25, aM_26, aM_27, aM_28, aM_29, aM_30, aM_31, aM_38, aM_39, aM_40, aM_41, aM_42, aM_43, aM_44, aM_45, aM_46, aM_47, lM_6, lM_7, lM_8, lM_9, lM_10, lM_11, lM_12, lM_13, lM_14, lM_15, lM_16, lM_17, lM_18, lM_19, lM_20, lM_21, lM_22, lM_23, lM_24, lM_25, lM_26, lM_27, lM_28, lM_29, lM_30, lM_31, lM_38, lM_39, lM_40, lM_41, lM_42, lM_43, lM_44, lM_45, lM_46, lM_47, dX7_element_0, st_aload_n, dX7_element_1, st_iload_n, dX7_element_2, st_invokevirtual, dX7_element_5, st_ifCond, dX7_element_8, dX7_element_9, st_getfield, fl_X7_68, dX7_element_12, dX7_element_13, st_iaload, dX7_element_14, st_iconst, dX7_element_15, st_if_icmp, dX7_element_18, dX7_element_19, dX7_element_22, dX7_element_23, dX7_element_24, fl_X7_74, dX7_element_27, dX7_element_28, dX7_element_29, dX7_element_32, dX7_element_33, fl_X7_80, dX7_element_36, st_sipush, dX7_element_39, dX7_element_40, st_imul, dX7_element_41, dX7_element_42, st_iadd, dX7_element_43, st_laload, dX7_element_44, st_goto, dX7_element_47, st_lconst, dX7_element_48, st_lreturn, c_X7_element_132, pX7_isShelf_e, fX7_isShelf_e, Option.toList_some, Option.toList_none, List.cons_append, List.nil_append, ofJ_1, ofI_160, hp1]
  simp only [hR, fX7_element_e, elM]
  clear hR hp1
  generalize tn (160 * s + i) = ix at *
  generalize 160 * s + i = iy at *
  grind (splits := 40)
theorem rX7_element : ∀ as σ, pX7_element as σ → ∃ K as', as = .ref K :: as' ∧ xob WM K 7 := by
  rintro as σ ⟨s, i, rfl, hpre⟩
  exact ⟨_, _, rfl, by first | exact hpre | exact hpre.1 | exact obT hpre | exact obT hpre.1 | exact obS hpre | exact obS hpre.1 | exact obM | exact ob6 | exact ob2 | exact ob0⟩
