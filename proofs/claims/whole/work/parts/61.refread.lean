/-! the reference reads -/
def lhM (σ : xS) : Int32 := (σ.2 27 (tn (σ.1 0 32 + σ.1 0 33))).toInt32
def isD (σ : xS) : Bool := decide (σ.1 0 33 < σ.1 0 34 ∧ 48 ≤ lhM σ ∧ lhM σ ≤ 57)
def rdP (σ : xS) : Prop := (0 ≤ σ.1 0 32 ∧ σ.1 0 32 ≤ 1120) ∧ (0 ≤ σ.1 0 33 ∧ σ.1 0 33 ≤ σ.1 0 34 ∧ σ.1 0 34 ≤ 160)
theorem rd_n {b a e : Int32} (h1 : 0 ≤ b) (h2 : b ≤ 1120) (h3 : 0 ≤ a) (h4 : a < e) (h5 : e ≤ 160) : 0 ≤ b + a ∧ tn (b + a) < 1280 := by
  have a1 := t_le.mp h1
  have a2 := t_le.mp h2
  have a3 := t_le.mp h3
  have a4 := t_lt.mp h4
  have a5 := t_le.mp h5
  have e1 : (1120 : Int32).toInt = 1120 := rfl
  rw [t_0] at a1 a3
  rw [e1] at a2
  rw [t_160] at a5
  have s : (b + a).toInt = b.toInt + a.toInt := t_add (by omega) (by omega)
  constructor
  · rw [t_le, s, t_0]; omega
  · rw [t_tn, s]; omega
theorem rd_ix {σ : xS} (h : rdP σ) (h2 : σ.1 0 33 < σ.1 0 34) : 0 ≤ σ.1 0 32 + σ.1 0 33 ∧ tn (σ.1 0 32 + σ.1 0 33) < 1280 := rd_n h.1.1 h.1.2 h.2.1 h2 h.2.2.2
theorem rd_1 {a e : Int32} (h3 : 0 ≤ a) (h4 : a < e) (h5 : e ≤ 160) : 0 ≤ a + 1 ∧ a + 1 ≤ e := by
  have a3 := t_le.mp h3
  have a4 := t_lt.mp h4
  have a5 := t_le.mp h5
  rw [t_0] at a3
  rw [t_160] at a5
  have s : (a + 1).toInt = a.toInt + 1 := by rw [t_add (by rw [t_1]; omega) (by rw [t_1]; omega), t_1]
  constructor
  · rw [t_le, s, t_0]; omega
  · rw [t_le, s]; omega
theorem rd_s {σ τ : xS} (h : rdP σ) (h2 : σ.1 0 33 < σ.1 0 34) (e1 : τ.1 0 32 = σ.1 0 32) (e2 : τ.1 0 33 = σ.1 0 33 + 1) (e3 : τ.1 0 34 = σ.1 0 34) : rdP τ := by
  unfold rdP
  rw [e1, e2, e3]
  exact ⟨h.1, (rd_1 h.2.1 h2 h.2.2.2).1, (rd_1 h.2.1 h2 h.2.2.2).2, h.2.2.2⟩
theorem rd_e {σ τ : xS} (h : rdP σ) (e1 : τ.1 0 32 = σ.1 0 32) (e2 : τ.1 0 33 = σ.1 0 33) (e3 : τ.1 0 34 = σ.1 0 34) : rdP τ := by
  unfold rdP
  rw [e1, e2, e3]
  exact h
theorem isD_lt {σ : xS} (h : isD σ = true) : σ.1 0 33 < σ.1 0 34 := (of_decide_eq_true h).1
theorem lhM_f {σ : xS} : (σ.2 27 (tn (σ.1 0 32 + σ.1 0 33))).toInt32 = lhM σ := rfl
def pX7_isDigit (as : List Value) (σ : xS) : Prop := as = [.ref 0] ∧ (rdP σ)
def fX7_isDigit (as : List Value) (σ : xS) : Option Value × xS := match as with
  | [.ref 0] => (some (.int (if isD σ = true then 1 else 0)), σ)
  | _ => (none, σ)
theorem pX7_isDigit_e {σ : xS} : pX7_isDigit [.ref 0] σ = (rdP σ) := propext ⟨fun h => h.2, fun h => ⟨rfl, h⟩⟩
theorem fX7_isDigit_e  {σ : xS} : fX7_isDigit [.ref 0] σ = (some (.int (if isD σ = true then 1 else 0)), σ) := rfl
def calX7_isDigit : List (Nat × xCall) := []
set_option maxHeartbeats 1000000 in
set_option maxRecDepth 100000 in
theorem mX7_isDigit : xMet WM yX7_isDigit cX7_isDigit 1 (some .boolean) 1 pX7_isDigit fX7_isDigit := by
  refine xMet_of (fld := xlk fldX7) (cal := xlk calX7_isDigit) (ks := xlk []) (gs := xlk []) (ro := fun _ => none) 1 (by decide) WM_nd rfl fldX7_ok xKs_nil xGs_nil (Or.inr rfl) xcal_nil ?_ ?_
  · rintro av σ ⟨rfl, hpre⟩
    exact Nat.le_of_ble_eq_true rfl
  rintro av σ ⟨rfl, hp1⟩ Rt hR
  have hx := rd_ix hp1
  have e5 : isD σ = decide (σ.1 0 33 < σ.1 0 34 ∧ 48 ≤ lhM σ ∧ lhM σ ≤ 57) := rfl
  have hx1 : σ.1 0 33 < σ.1 0 34 → 0 ≤ σ.1 0 32 + σ.1 0 33 := fun h => (hx h).1
  have hx2 : σ.1 0 33 < σ.1 0 34 → tn (σ.1 0 32 + σ.1 0 33) < 1280 := fun h => (hx h).2
  refine xgo0 33 ?_
  simp -implicitDefEqProofs only [xwp_2, xwp_0, xwp_1, xws_s, xdd_o, xld_0, xld_s, xs1_0, xs1_1, xs1_s, xs2_0, xs2_1, xs2_s, xlg_n, xlg_i, xlg_r, xlg_z, xlg_l, xf4_0, xf4_1, xf4_2, xf4_3, xgo_e, xcmp_eq, xcmp_ne, xcmp_lt, xcmp_ge, xcmp_gt, xcmp_le, xfg_0, xfg_1, xfg_2, xfg_3, xfg_4, xpop_0, xpop_s, xsw_n, xsw_c, xtb_n, xtb_c, xenp_n, xenp_i, xenp_r, xenp_z, xenp_l, xrep_0, xrep_s, Nat.reduceSub, true_and, and_true, cat_i, cat_r, Nat.reduceAdd, Nat.reduceLT, Nat.reduceLeDiff, Nat.reduceEqDiff, xnc, Int.reduceAdd, Int.reduceSub, Int.reduceNeg, Int.reduceLE, Int.reduceLT, Int.reduceToNat, ↓reduceIte, List.length_cons, List.length_nil, xlc0, xlc1, ite_10, i10, i01, i0_2, i0_3, i0_4, i0_6, i0_7, i0_8, i0_49, i0_10, or_true, true_or, or_false, false_or, not_false_eq_true, not_true_eq_false, xnt, xI_g, eq_self, xI_2, xJ_1, false_and, and_false, obM_t, rMi, vp_tn, tn_def, lgc, nI8, nI6, nI160, nI20, nI401, nI49, aM_6, aM_7, aM_8, aM_9, aM_10, aM_11, aM_12, aM_13, aM_14, aM_15, aM_16, aM_17, aM_18, aM_19, aM_20, aM_21, aM_22, aM_23, aM_24, aM_25, aM_26, aM_27, aM_28, aM_29, aM_30, aM_31, aM_38, aM_39, aM_40, aM_41, aM_42, aM_43, aM_44, aM_45, aM_46, aM_47, lM_6, lM_7, lM_8, lM_9, lM_10, lM_11, lM_12, lM_13, lM_14, lM_15, lM_16, lM_17, lM_18, lM_19, lM_20, lM_21, lM_22, lM_23, lM_24, lM_25, lM_26, lM_27, lM_28, lM_29, lM_30, lM_31, lM_38, lM_39, lM_40, lM_41, lM_42, lM_43, lM_44, lM_45, lM_46, lM_47, dX7_isDigit_0, st_aload_n, dX7_isDigit_1, st_getfield, fl_X7_183, dX7_isDigit_4, dX7_isDigit_5, fl_X7_186, dX7_isDigit_8, st_if_icmp, dX7_isDigit_11, dX7_isDigit_12, fl_X7_80, dX7_isDigit_15, dX7_isDigit_16, fl_X7_189, dX7_isDigit_19, dX7_isDigit_20, dX7_isDigit_23, st_iadd, dX7_isDigit_24, st_laload, dX7_isDigit_25, st_l2i, dX7_isDigit_26, st_bipush, dX7_isDigit_28, dX7_isDigit_31, dX7_isDigit_32, dX7_isDigit_35, dX7_isDigit_36, dX7_isDigit_39, dX7_isDigit_40, dX7_isDigit_43, dX7_isDigit_44, dX7_isDigit_45, dX7_isDigit_46, dX7_isDigit_48, dX7_isDigit_51, st_iconst, dX7_isDigit_52, st_goto, dX7_isDigit_55, dX7_isDigit_56, st_ireturn, ofI_48, ofI_57, ofJ_1, ofI_0, hp1, lhM_f]
  simp only [hR, fX7_isDigit_e]
  clear hR hp1 hx
  generalize lhM σ = c at *
  generalize isD σ = u at *
  generalize tn (σ.1 0 32 + σ.1 0 33) = t at *
  grind (splits := 40)
theorem rX7_isDigit : ∀ as σ, pX7_isDigit as σ → ∃ K as', as = .ref K :: as' ∧ xob WM K 7 := by
  rintro as σ ⟨rfl, hpre⟩
  exact ⟨_, _, rfl, by first | exact hpre | exact hpre.1 | exact obT hpre | exact obT hpre.1 | exact obS hpre | exact obS hpre.1 | exact obM | exact ob6 | exact ob2 | exact ob0⟩
/-- a number: what is told, and where it stands then -/
def nm1 (σ : xS) : xS := xI σ 0 35 0
def nm2 (σ : xS) : xS := xI (xI (nm1 σ) 0 35 (lhM (nm1 σ) - 48)) 0 33 (σ.1 0 33 + 1)
def nm3 (σ : xS) : xS := xI (xI (nm2 σ) 0 35 (10 * (nm2 σ).1 0 35 + lhM (nm2 σ) - 48)) 0 33 (σ.1 0 33 + 1 + 1)
def numM (σ : xS) : Int32 × xS := if isD (nm1 σ) = true then (if isD (nm2 σ) = true then (1, nm3 σ) else (1, nm2 σ)) else (0, xI (nm1 σ) 0 37 (σ.1 0 33))
theorem nm1_f {σ : xS} : xI σ 0 35 0 = nm1 σ := rfl
theorem nm1_o {σ : xS} {a c : Nat} (h : a ≠ 0 ∨ c ≠ 35) : (nm1 σ).1 a c = σ.1 a c := by unfold nm1; rw [xI_n (by omega)]
theorem nm2_o {σ : xS} {a c : Nat} (h : a ≠ 0 ∨ (c ≠ 35 ∧ c ≠ 33)) : (nm2 σ).1 a c = σ.1 a c := by unfold nm2; rw [xI_n (by omega), xI_n (by omega), nm1_o (by omega)]
theorem nm3_o {σ : xS} {a c : Nat} (h : a ≠ 0 ∨ (c ≠ 35 ∧ c ≠ 33)) : (nm3 σ).1 a c = σ.1 a c := by unfold nm3; rw [xI_n (by omega), xI_n (by omega), nm2_o (by omega)]
theorem nm2_33 {σ : xS} : (nm2 σ).1 0 33 = σ.1 0 33 + 1 := by unfold nm2; rw [xI_s]
theorem nm3_33 {σ : xS} : (nm3 σ).1 0 33 = σ.1 0 33 + 1 + 1 := by unfold nm3; rw [xI_s]
theorem nm1_r {σ : xS} (h : rdP σ) : rdP (nm1 σ) := rd_e h (nm1_o (by omega)) (nm1_o (by omega)) (nm1_o (by omega))
theorem nm2_r {σ : xS} (h : rdP σ) (h2 : isD (nm1 σ) = true) : rdP (nm2 σ) := rd_s (nm1_r h) (isD_lt h2) (by rw [nm2_o (by omega), nm1_o (by omega)]) (by rw [nm2_33, nm1_o (by omega)]) (by rw [nm2_o (by omega), nm1_o (by omega)])
theorem nm3_r {σ : xS} (h : rdP σ) (h2 : isD (nm1 σ) = true) (h3 : isD (nm2 σ) = true) : rdP (nm3 σ) := rd_s (nm2_r h h2) (isD_lt h3) (by rw [nm3_o (by omega), nm2_o (by omega)]) (by rw [nm3_33, nm2_33]) (by rw [nm3_o (by omega), nm2_o (by omega)])
def pX7_number (as : List Value) (σ : xS) : Prop := as = [.ref 0] ∧ (rdP σ)
def fX7_number (as : List Value) (σ : xS) : Option Value × xS := match as with
  | [.ref 0] => (some (.int (numM σ).1), (numM σ).2)
  | _ => (none, σ)
theorem pX7_number_e {σ : xS} : pX7_number [.ref 0] σ = (rdP σ) := propext ⟨fun h => h.2, fun h => ⟨rfl, h⟩⟩
theorem fX7_number_e  {σ : xS} : fX7_number [.ref 0] σ = (some (.int (numM σ).1), (numM σ).2) := rfl
def calX7_number : List (Nat × xCall) := [(195, (false, 1, pX7_isDigit, fX7_isDigit)), (199, (false, 2, pX7_wrong, fX7_wrong))]
theorem c_X7_number_195 : xlk calX7_number 195 = some (false, 1, pX7_isDigit, fX7_isDigit) := rfl
theorem c_X7_number_199 : xlk calX7_number 199 = some (false, 2, pX7_wrong, fX7_wrong) := rfl
set_option maxHeartbeats 1000000 in
set_option maxRecDepth 100000 in
theorem mX7_number : xMet WM yX7_number cX7_number 1 (some .boolean) 2 pX7_number fX7_number := by
  refine xMet_of (fld := xlk fldX7) (cal := xlk calX7_number) (ks := xlk []) (gs := xlk []) (ro := fun _ => none) 1 (by decide) WM_nd rfl fldX7_ok xKs_nil xGs_nil (Or.inr rfl) (xcal_cons (xCk_V mX7_isDigit 7 (by decide) (by decide) (by decide) rfl (fun as σ h _ => rX7_isDigit as σ h) w_X7_195 ⟨by decide, by decide, by decide +kernel⟩) (xcal_cons (xCk_V mX7_wrong 7 (by decide) (by decide) (by decide) rfl (fun as σ h _ => rX7_wrong as σ h) w_X7_199 ⟨by decide, by decide, by decide +kernel⟩) xcal_nil)) ?_ ?_
  · rintro av σ ⟨rfl, hpre⟩
    exact Nat.le_of_ble_eq_true rfl
  rintro av σ ⟨rfl, hp1⟩ Rt hR
  have hR2 := hR2_g (Rt := Rt) (F := numM σ) (fun r s' => by rw [hR, fX7_number_e])
  clear hR
  have r1 := nm1_r hp1
  have k33 : (nm1 σ).1 0 33 = σ.1 0 33 := nm1_o (by omega)
  have k32 : (nm1 σ).1 0 32 = σ.1 0 32 := nm1_o (by omega)
  by_cases h1 : isD (nm1 σ) = true
  · have x1 := rd_ix r1 (isD_lt h1)
    have x1a := x1.1
    have x1b := x1.2
    have r2 := nm2_r hp1 h1
    have l1 : (σ.2 27 (tn (σ.1 0 32 + σ.1 0 33))).toInt32 = lhM (nm1 σ) := by unfold lhM; rw [k32, k33]; rfl
    rw [k32, k33] at x1a x1b
    have s2 : xI (xI (nm1 σ) 0 35 (lhM (nm1 σ) - 48)) 0 33 (σ.1 0 33 + 1) = nm2 σ := rfl
    have q33 : (nm2 σ).1 0 33 = σ.1 0 33 + 1 := nm2_33
    have q32 : (nm2 σ).1 0 32 = σ.1 0 32 := nm2_o (by omega)
    by_cases h2 : isD (nm2 σ) = true
    · have x2 := rd_ix r2 (isD_lt h2)
      have x2a := x2.1
      have x2b := x2.2
      rw [q32, q33] at x2a x2b
      have l2 : (σ.2 27 (tn (σ.1 0 32 + (σ.1 0 33 + 1)))).toInt32 = lhM (nm2 σ) := by unfold lhM; rw [q32, q33]; rfl
      have m2' : (nm2 σ).2 = σ.2 := rfl
      have q35 : (nm2 σ).1 0 35 = lhM (nm1 σ) - 48 := by unfold nm2; rw [xI_n (by omega), xI_s]
      have g0 : numM σ = (1, nm3 σ) := by rw [numM, if_pos h1, if_pos h2]
      have s3 : xI (xI (nm2 σ) 0 35 (10 * (lhM (nm1 σ) - 48) + lhM (nm2 σ) - 48)) 0 33 (σ.1 0 33 + 1 + 1) = nm3 σ := by rw [← q35]; rfl
      refine xgo0 64 ?_
      simp -implicitDefEqProofs only [xwp_2, xwp_0, xwp_1, xws_s, xdd_o, xld_0, xld_s, xs1_0, xs1_1, xs1_s, xs2_0, xs2_1, xs2_s, xlg_n, xlg_i, xlg_r, xlg_z, xlg_l, xf4_0, xf4_1, xf4_2, xf4_3, xgo_e, xcmp_eq, xcmp_ne, xcmp_lt, xcmp_ge, xcmp_gt, xcmp_le, xfg_0, xfg_1, xfg_2, xfg_3, xfg_4, xpop_0, xpop_s, xsw_n, xsw_c, xtb_n, xtb_c, xenp_n, xenp_i, xenp_r, xenp_z, xenp_l, xrep_0, xrep_s, Nat.reduceSub, true_and, and_true, cat_i, cat_r, Nat.reduceAdd, Nat.reduceLT, Nat.reduceLeDiff, Nat.reduceEqDiff, xnc, Int.reduceAdd, Int.reduceSub, Int.reduceNeg, Int.reduceLE, Int.reduceLT, Int.reduceToNat, ↓reduceIte, List.length_cons, List.length_nil, xlc0, xlc1, ite_10, i10, i01, i0_2, i0_3, i0_4, i0_6, i0_7, i0_8, i0_49, i0_10, or_true, true_or, or_false, false_or, not_false_eq_true, not_true_eq_false, xnt, xI_g, eq_self, xI_2, xJ_1, false_and, and_false, obM_t, rMi, vp_tn, tn_def, lgc, nI8, nI6, nI160, nI20, nI401, nI49, aM_6, aM_7, aM_8, aM_9, aM_10, aM_11, aM_12, aM_13, aM_14, aM_15, aM_16, aM_17, aM_18, aM_19, aM_20, aM_21, aM_22, aM_23, aM_24, aM_25, aM_26, aM_27, aM_28, aM_29, aM_30, aM_31, aM_38, aM_39, aM_40, aM_41, aM_42, aM_43, aM_44, aM_45, aM_46, aM_47, lM_6, lM_7, lM_8, lM_9, lM_10, lM_11, lM_12, lM_13, lM_14, lM_15, lM_16, lM_17, lM_18, lM_19, lM_20, lM_21, lM_22, lM_23, lM_24, lM_25, lM_26, lM_27, lM_28, lM_29, lM_30, lM_31, lM_38, lM_39, lM_40, lM_41, lM_42, lM_43, lM_44, lM_45, lM_46, lM_47, dX7_number_0, st_aload_n, dX7_number_1, st_iconst, dX7_number_2, st_putfield, fl_X7_192, dX7_number_5, dX7_number_6, st_invokevirtual, dX7_number_9, st_ifCond, dX7_number_12, dX7_number_13, dX7_number_14, st_getfield, fl_X7_183, dX7_number_17, dX7_number_20, st_ireturn, dX7_number_21, dX7_number_22, dX7_number_23, fl_X7_80, dX7_number_26, dX7_number_27, fl_X7_189, dX7_number_30, dX7_number_31, dX7_number_34, st_iadd, dX7_number_35, st_laload, dX7_number_36, st_l2i, dX7_number_37, st_bipush, dX7_number_39, st_isub, dX7_number_40, dX7_number_43, dX7_number_44, st_dup, dX7_number_45, dX7_number_48, dX7_number_49, dX7_number_50, dX7_number_53, dX7_number_54, dX7_number_57, dX7_number_60, dX7_number_61, dX7_number_63, dX7_number_64, dX7_number_67, st_imul, dX7_number_68, dX7_number_69, dX7_number_72, dX7_number_73, dX7_number_76, dX7_number_77, dX7_number_80, dX7_number_81, dX7_number_82, dX7_number_83, dX7_number_84, dX7_number_86, dX7_number_87, dX7_number_90, dX7_number_91, dX7_number_92, dX7_number_95, dX7_number_96, dX7_number_97, dX7_number_100, dX7_number_101, c_X7_number_195, pX7_isDigit_e, fX7_isDigit_e, Option.toList_some, Option.toList_none, List.cons_append, List.nil_append, c_X7_number_199, pX7_wrong_e, fX7_wrong_e, ofI_0, ofI_48, ofJ_1, ofI_10, hp1, nm1_f, r1, k33, k32, h1, x1a, x1b, l1, s2, r2, q33, q32, h2, x2a, x2b, l2, s3, m2', q35]
      rw [g0] at hR2
      simp [hR2]
    · have g0 : numM σ = (1, nm2 σ) := by rw [numM, if_pos h1, if_neg h2]
      refine xtoN [(60, fun _ _ _ => False)] (fun q hq L st s hp => by simp only [List.mem_singleton] at hq; subst hq; exact hp.elim) 40 ?_
      simp -implicitDefEqProofs only [xwp_2, xwp_0, xwp_1, xws_s, xdd_o, xld_0, xld_s, xs1_0, xs1_1, xs1_s, xs2_0, xs2_1, xs2_s, xlg_n, xlg_i, xlg_r, xlg_z, xlg_l, xf4_0, xf4_1, xf4_2, xf4_3, xgo_e, xcmp_eq, xcmp_ne, xcmp_lt, xcmp_ge, xcmp_gt, xcmp_le, xfg_0, xfg_1, xfg_2, xfg_3, xfg_4, xpop_0, xpop_s, xsw_n, xsw_c, xtb_n, xtb_c, xenp_n, xenp_i, xenp_r, xenp_z, xenp_l, xrep_0, xrep_s, Nat.reduceSub, true_and, and_true, cat_i, cat_r, Nat.reduceAdd, Nat.reduceLT, Nat.reduceLeDiff, Nat.reduceEqDiff, xnc, Int.reduceAdd, Int.reduceSub, Int.reduceNeg, Int.reduceLE, Int.reduceLT, Int.reduceToNat, ↓reduceIte, List.length_cons, List.length_nil, xlc0, xlc1, ite_10, i10, i01, i0_2, i0_3, i0_4, i0_6, i0_7, i0_8, i0_49, i0_10, or_true, true_or, or_false, false_or, not_false_eq_true, not_true_eq_false, xnt, xI_g, eq_self, xI_2, xJ_1, false_and, and_false, obM_t, rMi, vp_tn, tn_def, lgc, nI8, nI6, nI160, nI20, nI401, nI49, aM_6, aM_7, aM_8, aM_9, aM_10, aM_11, aM_12, aM_13, aM_14, aM_15, aM_16, aM_17, aM_18, aM_19, aM_20, aM_21, aM_22, aM_23, aM_24, aM_25, aM_26, aM_27, aM_28, aM_29, aM_30, aM_31, aM_38, aM_39, aM_40, aM_41, aM_42, aM_43, aM_44, aM_45, aM_46, aM_47, lM_6, lM_7, lM_8, lM_9, lM_10, lM_11, lM_12, lM_13, lM_14, lM_15, lM_16, lM_17, lM_18, lM_19, lM_20, lM_21, lM_22, lM_23, lM_24, lM_25, lM_26, lM_27, lM_28, lM_29, lM_30, lM_31, lM_38, lM_39, lM_40, lM_41, lM_42, lM_43, lM_44, lM_45, lM_46, lM_47, dX7_number_0, st_aload_n, dX7_number_1, st_iconst, dX7_number_2, st_putfield, fl_X7_192, dX7_number_5, dX7_number_6, st_invokevirtual, dX7_number_9, st_ifCond, dX7_number_12, dX7_number_13, dX7_number_14, st_getfield, fl_X7_183, dX7_number_17, dX7_number_20, st_ireturn, dX7_number_21, dX7_number_22, dX7_number_23, fl_X7_80, dX7_number_26, dX7_number_27, fl_X7_189, dX7_number_30, dX7_number_31, dX7_number_34, st_iadd, dX7_number_35, st_laload, dX7_number_36, st_l2i, dX7_number_37, st_bipush, dX7_number_39, st_isub, dX7_number_40, dX7_number_43, dX7_number_44, st_dup, dX7_number_45, dX7_number_48, dX7_number_49, dX7_number_50, dX7_number_53, dX7_number_54, dX7_number_57, dX7_number_60, dX7_number_61, dX7_number_63, dX7_number_64, dX7_number_67, st_imul, dX7_number_68, dX7_number_69, dX7_number_72, dX7_number_73, dX7_number_76, dX7_number_77, dX7_number_80, dX7_number_81, dX7_number_82, dX7_number_83, dX7_number_84, dX7_number_86, dX7_number_87, dX7_number_90, dX7_number_91, dX7_number_92, dX7_number_95, dX7_number_96, dX7_number_97, dX7_number_100, dX7_number_101, c_X7_number_195, pX7_isDigit_e, fX7_isDigit_e, Option.toList_some, Option.toList_none, List.cons_append, List.nil_append, c_X7_number_199, pX7_wrong_e, fX7_wrong_e, ofI_0, ofI_48, ofJ_1, ofI_10, hp1, xwp_L, xlk_c, xlk_n, xcu_s, xcu_n, nm1_f, r1, k33, k32, h1, x1a, x1b, l1, s2, r2, q33, q32, h2]
      rw [g0] at hR2
      simp [hR2]
  · have g0 : numM σ = (0, xI (nm1 σ) 0 37 (σ.1 0 33)) := by rw [numM, if_neg h1]
    refine xtoN [(21, fun _ _ _ => False)] (fun q hq L st s hp => by simp only [List.mem_singleton] at hq; subst hq; exact hp.elim) 20 ?_
    simp -implicitDefEqProofs only [xwp_2, xwp_0, xwp_1, xws_s, xdd_o, xld_0, xld_s, xs1_0, xs1_1, xs1_s, xs2_0, xs2_1, xs2_s, xlg_n, xlg_i, xlg_r, xlg_z, xlg_l, xf4_0, xf4_1, xf4_2, xf4_3, xgo_e, xcmp_eq, xcmp_ne, xcmp_lt, xcmp_ge, xcmp_gt, xcmp_le, xfg_0, xfg_1, xfg_2, xfg_3, xfg_4, xpop_0, xpop_s, xsw_n, xsw_c, xtb_n, xtb_c, xenp_n, xenp_i, xenp_r, xenp_z, xenp_l, xrep_0, xrep_s, Nat.reduceSub, true_and, and_true, cat_i, cat_r, Nat.reduceAdd, Nat.reduceLT, Nat.reduceLeDiff, Nat.reduceEqDiff, xnc, Int.reduceAdd, Int.reduceSub, Int.reduceNeg, Int.reduceLE, Int.reduceLT, Int.reduceToNat, ↓reduceIte, List.length_cons, List.length_nil, xlc0, xlc1, ite_10, i10, i01, i0_2, i0_3, i0_4, i0_6, i0_7, i0_8, i0_49, i0_10, or_true, true_or, or_false, false_or, not_false_eq_true, not_true_eq_false, xnt, xI_g, eq_self, xI_2, xJ_1, false_and, and_false, obM_t, rMi, vp_tn, tn_def, lgc, nI8, nI6, nI160, nI20, nI401, nI49, aM_6, aM_7, aM_8, aM_9, aM_10, aM_11, aM_12, aM_13, aM_14, aM_15, aM_16, aM_17, aM_18, aM_19, aM_20, aM_21, aM_22, aM_23, aM_24, aM_25, aM_26, aM_27, aM_28, aM_29, aM_30, aM_31, aM_38, aM_39, aM_40, aM_41, aM_42, aM_43, aM_44, aM_45, aM_46, aM_47, lM_6, lM_7, lM_8, lM_9, lM_10, lM_11, lM_12, lM_13, lM_14, lM_15, lM_16, lM_17, lM_18, lM_19, lM_20, lM_21, lM_22, lM_23, lM_24, lM_25, lM_26, lM_27, lM_28, lM_29, lM_30, lM_31, lM_38, lM_39, lM_40, lM_41, lM_42, lM_43, lM_44, lM_45, lM_46, lM_47, dX7_number_0, st_aload_n, dX7_number_1, st_iconst, dX7_number_2, st_putfield, fl_X7_192, dX7_number_5, dX7_number_6, st_invokevirtual, dX7_number_9, st_ifCond, dX7_number_12, dX7_number_13, dX7_number_14, st_getfield, fl_X7_183, dX7_number_17, dX7_number_20, st_ireturn, dX7_number_21, dX7_number_22, dX7_number_23, fl_X7_80, dX7_number_26, dX7_number_27, fl_X7_189, dX7_number_30, dX7_number_31, dX7_number_34, st_iadd, dX7_number_35, st_laload, dX7_number_36, st_l2i, dX7_number_37, st_bipush, dX7_number_39, st_isub, dX7_number_40, dX7_number_43, dX7_number_44, st_dup, dX7_number_45, dX7_number_48, dX7_number_49, dX7_number_50, dX7_number_53, dX7_number_54, dX7_number_57, dX7_number_60, dX7_number_61, dX7_number_63, dX7_number_64, dX7_number_67, st_imul, dX7_number_68, dX7_number_69, dX7_number_72, dX7_number_73, dX7_number_76, dX7_number_77, dX7_number_80, dX7_number_81, dX7_number_82, dX7_number_83, dX7_number_84, dX7_number_86, dX7_number_87, dX7_number_90, dX7_number_91, dX7_number_92, dX7_number_95, dX7_number_96, dX7_number_97, dX7_number_100, dX7_number_101, c_X7_number_195, pX7_isDigit_e, fX7_isDigit_e, Option.toList_some, Option.toList_none, List.cons_append, List.nil_append, c_X7_number_199, pX7_wrong_e, fX7_wrong_e, ofI_0, ofI_48, ofJ_1, ofI_10, hp1, xwp_L, xlk_c, xlk_n, xcu_s, xcu_n, nm1_f, r1, k33, k32, h1]
    rw [g0] at hR2
    simp [hR2]
theorem rX7_number : ∀ as σ, pX7_number as σ → ∃ K as', as = .ref K :: as' ∧ xob WM K 7 := by
  rintro as σ ⟨rfl, hpre⟩
  exact ⟨_, _, rfl, by first | exact hpre | exact hpre.1 | exact obT hpre | exact obT hpre.1 | exact obS hpre | exact obS hpre.1 | exact obM | exact ob6 | exact ob2 | exact ob0⟩
theorem i64e {x y : Int32} : (x.toInt64 = y.toInt64) = (x = y) := propext ⟨fun h => by
  have := congrArg Int64.toInt h
  rw [Int32.toInt_toInt64, Int32.toInt_toInt64] at this
  exact Int32.toInt_inj.mp this, fun h => by rw [h]⟩
theorem i64_102 {x : Int32} : (x.toInt64 = 102) = (x = 102) := i64e (y := 102)
theorem i64_108 {x : Int32} : (x.toInt64 = 108) = (x = 108) := i64e (y := 108)
theorem i64_114 {x : Int32} : (x.toInt64 = 114) = (x = 114) := i64e (y := 114)
theorem i64_115 {x : Int32} : (x.toInt64 = 115) = (x = 115) := i64e (y := 115)
def saM (σ : xS) : Int32 := if ¬ σ.1 0 33 < σ.1 0 34 then -1 else if lhM σ = 102 then 0 else if lhM σ = 108 then 1 else if lhM σ = 114 then 2 else if lhM σ = 115 then 3 else -1
def pX7_stepAt (as : List Value) (σ : xS) : Prop := as = [.ref 0] ∧ (rdP σ)
def fX7_stepAt (as : List Value) (σ : xS) : Option Value × xS := match as with
  | [.ref 0] => (some (.int (saM σ)), σ)
  | _ => (none, σ)
theorem pX7_stepAt_e {σ : xS} : pX7_stepAt [.ref 0] σ = (rdP σ) := propext ⟨fun h => h.2, fun h => ⟨rfl, h⟩⟩
theorem fX7_stepAt_e  {σ : xS} : fX7_stepAt [.ref 0] σ = (some (.int (saM σ)), σ) := rfl
def calX7_stepAt : List (Nat × xCall) := []
set_option maxHeartbeats 1000000 in
set_option maxRecDepth 100000 in
theorem mX7_stepAt : xMet WM yX7_stepAt cX7_stepAt 3 (some .int) 1 pX7_stepAt fX7_stepAt := by
  refine xMet_of (fld := xlk fldX7) (cal := xlk calX7_stepAt) (ks := xlk ksX7) (gs := xlk []) (ro := fun _ => none) 0 (by decide) WM_nd rfl fldX7_ok ksX7_ok xGs_nil (Or.inr rfl) xcal_nil ?_ ?_
  · rintro av σ ⟨rfl, hpre⟩
    exact Nat.le_of_ble_eq_true rfl
  rintro av σ ⟨rfl, hp1⟩ Rt hR
  have hx := rd_ix hp1
  have e5 : saM σ = if ¬ σ.1 0 33 < σ.1 0 34 then -1 else if lhM σ = 102 then 0 else if lhM σ = 108 then 1 else if lhM σ = 114 then 2 else if lhM σ = 115 then 3 else -1 := rfl
  by_cases hlt : σ.1 0 33 < σ.1 0 34
  · have hx1 := (hx hlt).1
    have hx2 := (hx hlt).2
    refine xgo0 46 ?_
    simp -implicitDefEqProofs only [xwp_2, xwp_0, xwp_1, xws_s, xdd_o, xld_0, xld_s, xs1_0, xs1_1, xs1_s, xs2_0, xs2_1, xs2_s, xlg_n, xlg_i, xlg_r, xlg_z, xlg_l, xf4_0, xf4_1, xf4_2, xf4_3, xgo_e, xcmp_eq, xcmp_ne, xcmp_lt, xcmp_ge, xcmp_gt, xcmp_le, xfg_0, xfg_1, xfg_2, xfg_3, xfg_4, xpop_0, xpop_s, xsw_n, xsw_c, xtb_n, xtb_c, xenp_n, xenp_i, xenp_r, xenp_z, xenp_l, xrep_0, xrep_s, Nat.reduceSub, true_and, and_true, cat_i, cat_r, Nat.reduceAdd, Nat.reduceLT, Nat.reduceLeDiff, Nat.reduceEqDiff, xnc, Int.reduceAdd, Int.reduceSub, Int.reduceNeg, Int.reduceLE, Int.reduceLT, Int.reduceToNat, ↓reduceIte, List.length_cons, List.length_nil, xlc0, xlc1, ite_10, i10, i01, i0_2, i0_3, i0_4, i0_6, i0_7, i0_8, i0_49, i0_10, or_true, true_or, or_false, false_or, not_false_eq_true, not_true_eq_false, xnt, xI_g, eq_self, xI_2, xJ_1, false_and, and_false, obM_t, rMi, vp_tn, tn_def, lgc, nI8, nI6, nI160, nI20, nI401, nI49, aM_6, aM_7, aM_8, aM_9, aM_10, aM_11, aM_12, aM_13, aM_14, aM_15, aM_16, aM_17, aM_18, aM_19, aM_20, aM_21, aM_22, aM_23, aM_24, aM_25, aM_26, aM_27, aM_28, aM_29, aM_30, aM_31, aM_38, aM_39, aM_40, aM_41, aM_42, aM_43, aM_44, aM_45, aM_46, aM_47, lM_6, lM_7, lM_8, lM_9, lM_10, lM_11, lM_12, lM_13, lM_14, lM_15, lM_16, lM_17, lM_18, lM_19, lM_20, lM_21, lM_22, lM_23, lM_24, lM_25, lM_26, lM_27, lM_28, lM_29, lM_30, lM_31, lM_38, lM_39, lM_40, lM_41, lM_42, lM_43, lM_44, lM_45, lM_46, lM_47, dX7_stepAt_0, st_aload_n, dX7_stepAt_1, st_getfield, fl_X7_183, dX7_stepAt_4, dX7_stepAt_5, fl_X7_186, dX7_stepAt_8, st_if_icmp, dX7_stepAt_11, st_iconst, dX7_stepAt_12, st_ireturn, dX7_stepAt_13, dX7_stepAt_14, fl_X7_80, dX7_stepAt_17, dX7_stepAt_18, fl_X7_189, dX7_stepAt_21, dX7_stepAt_22, dX7_stepAt_25, st_iadd, dX7_stepAt_26, st_laload, dX7_stepAt_27, st_l2i, dX7_stepAt_28, st_i2l, dX7_stepAt_29, st_lstore_n, dX7_stepAt_30, st_lload_n, dX7_stepAt_31, st_ldc2_w, ks_X7_202, dX7_stepAt_34, st_lcmp, dX7_stepAt_35, st_ifCond, dX7_stepAt_38, dX7_stepAt_39, st_goto, dX7_stepAt_42, dX7_stepAt_43, ks_X7_204, dX7_stepAt_46, dX7_stepAt_47, dX7_stepAt_50, dX7_stepAt_51, dX7_stepAt_54, dX7_stepAt_55, ks_X7_206, dX7_stepAt_58, dX7_stepAt_59, dX7_stepAt_62, dX7_stepAt_63, dX7_stepAt_66, dX7_stepAt_67, ks_X7_208, dX7_stepAt_70, dX7_stepAt_71, dX7_stepAt_74, dX7_stepAt_75, dX7_stepAt_78, dX7_stepAt_79, ofI_m1, ofI_0, ofJ_1, ofJ_2, ofJ_3, hp1, lhM_f, hlt, hx1, hx2, i64_102, i64_108, i64_114, i64_115]
    simp only [hR, fX7_stepAt_e]
    rw [e5]
    clear hR hp1 hx e5
    generalize lhM σ = c at *
    grind (splits := 40)
  · refine xtoN [(13, fun _ _ _ => False)] (fun q hq L st s hp => by simp only [List.mem_singleton] at hq; subst hq; exact hp.elim) 12 ?_
    simp -implicitDefEqProofs only [xwp_2, xwp_0, xwp_1, xws_s, xdd_o, xld_0, xld_s, xs1_0, xs1_1, xs1_s, xs2_0, xs2_1, xs2_s, xlg_n, xlg_i, xlg_r, xlg_z, xlg_l, xf4_0, xf4_1, xf4_2, xf4_3, xgo_e, xcmp_eq, xcmp_ne, xcmp_lt, xcmp_ge, xcmp_gt, xcmp_le, xfg_0, xfg_1, xfg_2, xfg_3, xfg_4, xpop_0, xpop_s, xsw_n, xsw_c, xtb_n, xtb_c, xenp_n, xenp_i, xenp_r, xenp_z, xenp_l, xrep_0, xrep_s, Nat.reduceSub, true_and, and_true, cat_i, cat_r, Nat.reduceAdd, Nat.reduceLT, Nat.reduceLeDiff, Nat.reduceEqDiff, xnc, Int.reduceAdd, Int.reduceSub, Int.reduceNeg, Int.reduceLE, Int.reduceLT, Int.reduceToNat, ↓reduceIte, List.length_cons, List.length_nil, xlc0, xlc1, ite_10, i10, i01, i0_2, i0_3, i0_4, i0_6, i0_7, i0_8, i0_49, i0_10, or_true, true_or, or_false, false_or, not_false_eq_true, not_true_eq_false, xnt, xI_g, eq_self, xI_2, xJ_1, false_and, and_false, obM_t, rMi, vp_tn, tn_def, lgc, nI8, nI6, nI160, nI20, nI401, nI49, aM_6, aM_7, aM_8, aM_9, aM_10, aM_11, aM_12, aM_13, aM_14, aM_15, aM_16, aM_17, aM_18, aM_19, aM_20, aM_21, aM_22, aM_23, aM_24, aM_25, aM_26, aM_27, aM_28, aM_29, aM_30, aM_31, aM_38, aM_39, aM_40, aM_41, aM_42, aM_43, aM_44, aM_45, aM_46, aM_47, lM_6, lM_7, lM_8, lM_9, lM_10, lM_11, lM_12, lM_13, lM_14, lM_15, lM_16, lM_17, lM_18, lM_19, lM_20, lM_21, lM_22, lM_23, lM_24, lM_25, lM_26, lM_27, lM_28, lM_29, lM_30, lM_31, lM_38, lM_39, lM_40, lM_41, lM_42, lM_43, lM_44, lM_45, lM_46, lM_47, dX7_stepAt_0, st_aload_n, dX7_stepAt_1, st_getfield, fl_X7_183, dX7_stepAt_4, dX7_stepAt_5, fl_X7_186, dX7_stepAt_8, st_if_icmp, dX7_stepAt_11, st_iconst, dX7_stepAt_12, st_ireturn, dX7_stepAt_13, dX7_stepAt_14, fl_X7_80, dX7_stepAt_17, dX7_stepAt_18, fl_X7_189, dX7_stepAt_21, dX7_stepAt_22, dX7_stepAt_25, st_iadd, dX7_stepAt_26, st_laload, dX7_stepAt_27, st_l2i, dX7_stepAt_28, st_i2l, dX7_stepAt_29, st_lstore_n, dX7_stepAt_30, st_lload_n, dX7_stepAt_31, st_ldc2_w, ks_X7_202, dX7_stepAt_34, st_lcmp, dX7_stepAt_35, st_ifCond, dX7_stepAt_38, dX7_stepAt_39, st_goto, dX7_stepAt_42, dX7_stepAt_43, ks_X7_204, dX7_stepAt_46, dX7_stepAt_47, dX7_stepAt_50, dX7_stepAt_51, dX7_stepAt_54, dX7_stepAt_55, ks_X7_206, dX7_stepAt_58, dX7_stepAt_59, dX7_stepAt_62, dX7_stepAt_63, dX7_stepAt_66, dX7_stepAt_67, ks_X7_208, dX7_stepAt_70, dX7_stepAt_71, dX7_stepAt_74, dX7_stepAt_75, dX7_stepAt_78, dX7_stepAt_79, ofI_m1, ofI_0, ofJ_1, ofJ_2, ofJ_3, hp1, xwp_L, xlk_c, xlk_n, xcu_s, xcu_n, hlt]
    rw [hR, fX7_stepAt_e, e5, if_pos hlt]
    simp
theorem rX7_stepAt : ∀ as σ, pX7_stepAt as σ → ∃ K as', as = .ref K :: as' ∧ xob WM K 7 := by
  rintro as σ ⟨rfl, hpre⟩
  exact ⟨_, _, rfl, by first | exact hpre | exact hpre.1 | exact obT hpre | exact obT hpre.1 | exact obS hpre | exact obS hpre.1 | exact obM | exact ob6 | exact ob2 | exact ob0⟩
/-- the letters of steps -/
def le1 (S : xS) : xS := xI (xI (xI S 31 (tn (S.1 0 36)) (saM S)) 0 36 (S.1 0 36 + 1)) 0 33 (S.1 0 33 + 1)
def leS (σ : xS) : Nat → xS
  | 0 => xI σ 0 36 0
  | i + 1 => le1 (leS σ i)
def leE (σ : xS) (i : Nat) : Bool := decide (saM (leS σ i) = -1)
def leN (σ : xS) : Nat := xfs (leE σ) 9
def letM (σ : xS) : Int32 × xS := if leN σ < 9 then (if leN σ = 0 then (0, xI (leS σ 0) 0 37 (σ.1 0 33)) else (1, leS σ (leN σ))) else (0, xI (leS σ 8) 0 37 ((leS σ 8).1 0 33))
theorem leS_s {σ : xS} {i : Nat} : xI (xI (xI (leS σ i) 31 (tn ((leS σ i).1 0 36)) (saM (leS σ i))) 0 36 ((leS σ i).1 0 36 + 1)) 0 33 ((leS σ i).1 0 33 + 1) = leS σ (i + 1) := rfl
theorem leS_0 {σ : xS} : xI σ 0 36 0 = leS σ 0 := rfl
theorem leS_36 {σ : xS} : ∀ {i : Nat}, (leS σ i).1 0 36 = nI i
  | 0 => xI_s
  | i + 1 => by rw [← leS_s, xI_n (by omega), xI_s, leS_36, nI_1]
theorem leS_o {σ : xS} {a c : Nat} (h : a ≠ 31 ∧ (a ≠ 0 ∨ (c ≠ 36 ∧ c ≠ 33))) : ∀ {i : Nat}, (leS σ i).1 a c = σ.1 a c
  | 0 => xI_n (by omega)
  | i + 1 => by rw [← leS_s, xI_n (by omega), xI_n (by omega), xI_n (by omega)]; exact leS_o h
theorem sa_lt {S : xS} (h : ¬ saM S = -1) : S.1 0 33 < S.1 0 34 := by
  unfold saM at h
  split at h
  · exact absurd rfl h
  · rename_i h2; exact Classical.not_not.mp h2
theorem leS_r {σ : xS} (h : rdP σ) : ∀ {i : Nat}, (∀ j, j < i → leE σ j = false) → rdP (leS σ i)
  | 0, _ => rd_e h (xI_n (by omega)) (xI_n (by omega)) (xI_n (by omega))
  | i + 1, hH => by
    have ih := leS_r h (i := i) (fun j hj => hH j (by omega))
    have h2 := of_decide_eq_false (hH i (by omega))
    exact rd_s ih (sa_lt h2) (by rw [← leS_s, xI_n (by omega), xI_n (by omega), xI_n (by omega)]) (by rw [← leS_s, xI_s]) (by rw [← leS_s, xI_n (by omega), xI_n (by omega), xI_n (by omega)])
def pX7_letters (as : List Value) (σ : xS) : Prop := as = [.ref 0] ∧ (rdP σ)
def fX7_letters (as : List Value) (σ : xS) : Option Value × xS := match as with
  | [.ref 0] => (some (.int (letM σ).1), (letM σ).2)
  | _ => (none, σ)
theorem pX7_letters_e {σ : xS} : pX7_letters [.ref 0] σ = (rdP σ) := propext ⟨fun h => h.2, fun h => ⟨rfl, h⟩⟩
theorem fX7_letters_e  {σ : xS} : fX7_letters [.ref 0] σ = (some (.int (letM σ).1), (letM σ).2) := rfl
def calX7_letters : List (Nat × xCall) := [(213, (false, 1, pX7_stepAt, fX7_stepAt)), (199, (false, 2, pX7_wrong, fX7_wrong))]
theorem c_X7_letters_213 : xlk calX7_letters 213 = some (false, 1, pX7_stepAt, fX7_stepAt) := rfl
theorem c_X7_letters_199 : xlk calX7_letters 199 = some (false, 2, pX7_wrong, fX7_wrong) := rfl
set_option maxHeartbeats 1000000 in
set_option maxRecDepth 100000 in
theorem mX7_letters : xMet WM yX7_letters cX7_letters 1 (some .boolean) 2 pX7_letters fX7_letters := by
  refine xMet_of (fld := xlk fldX7) (cal := xlk calX7_letters) (ks := xlk []) (gs := xlk []) (ro := fun _ => none) 1 (by decide) WM_nd rfl fldX7_ok xKs_nil xGs_nil (Or.inr rfl) (xcal_cons (xCk_V mX7_stepAt 7 (by decide) (by decide) (by decide) rfl (fun as σ h _ => rX7_stepAt as σ h) w_X7_213 ⟨by decide, by decide, by decide +kernel⟩) (xcal_cons (xCk_V mX7_wrong 7 (by decide) (by decide) (by decide) rfl (fun as σ h _ => rX7_wrong as σ h) w_X7_199 ⟨by decide, by decide, by decide +kernel⟩) xcal_nil)) ?_ ?_
  · rintro av σ ⟨rfl, hpre⟩
    exact Nat.le_of_ble_eq_true rfl
  rintro av σ ⟨rfl, hp1⟩ Rt hR
  have hR2 := hR2_g (Rt := Rt) (F := letM σ) (fun r s' => by rw [hR, fX7_letters_e])
  clear hR
  have hx : letM σ = if leN σ < 9 then (if leN σ = 0 then (0, xI (leS σ 0) 0 37 ((leS σ 0).1 0 33)) else (1, leS σ (leN σ))) else (0, xI (leS σ 8) 0 37 ((leS σ 8).1 0 33)) := by
    have e : (leS σ 0).1 0 33 = σ.1 0 33 := xI_n (by omega)
    rw [e]; rfl
  rw [hx] at hR2
  clear hx
  have h1 : ∀ i, i ≤ 8 → (∀ j, j < i → leE σ j = false) → xGo WM 1 (xlk fldX7) (xlk calX7_letters) (xlk []) (xlk []) (fun _ => none) 1 cX7_letters Rt 5 [some (.ref 0)] [] (leS σ i) := by
    refine xcount (8) (fun i => (∀ j, j < i → leE σ j = false) → xGo WM 1 (xlk fldX7) (xlk calX7_letters) (xlk []) (xlk []) (fun _ => none) 1 cX7_letters Rt 5 [some (.ref 0)] [] (leS σ i)) (fun i hi ih hH => ?_)
    have hr := leS_r hp1 hH
    have k36 : (leS σ i).1 0 36 = nI i := leS_36
    have s3 := leS_s (σ := σ) (i := i)
    rw [k36, tn_nI (by omega)] at s3
    have r31 : rdP (xI (leS σ i) 31 i (saM (leS σ i))) ↔ True := iff_true_intro (rd_e hr (xI_n (by omega)) (xI_n (by omega)) (xI_n (by omega)))
    have hc8 : nI i = 8 ↔ i = 8 := nI_eq (b := 8) (by omega) (by omega)
    have hc0 : 0 < nI i ↔ 0 < i := nI_ltI (a := 0) (by omega) (by omega)
    have e0 : 0 ≤ nI i := nI_pos' (by omega)
    have e1 : nI i + 1 = nI (i + 1) := nI_1 i
    have e2 : tn (nI i) = i := tn_nI (by omega)
    refine xtoCs [(5, xPc (i < 8 ∧ (∀ j, j < (i + 1) → leE σ j = false)) [some (.ref 0)] (leS σ (i + 1)))] (xcs_cons (fun q => ih q.1 q.2) xcs_nil) 50 (fun cf hcf => ?_)
    have k5 : cf 5 = some (xPc (i < 8 ∧ (∀ j, j < (i + 1) → leE σ j = false)) [some (.ref 0)] (leS σ (i + 1))) := (hcf 5).trans rfl
    have kn : ∀ pc, ¬ pc = 5 → cf pc = none := fun pc h0 => by rw [hcf, xlk_c, if_neg h0, xlk_n]
    clear hcf
    simp (config := {maxSteps := 4000000, implicitDefEqProofs := false}) only [xwp_2, xwp_0, xwp_1, xws_s, xdd_o, xld_0, xld_s, xs1_0, xs1_1, xs1_s, xs2_0, xs2_1, xs2_s, xlg_n, xlg_i, xlg_r, xlg_z, xlg_l, xf4_0, xf4_1, xf4_2, xf4_3, xgo_e, xcmp_eq, xcmp_ne, xcmp_lt, xcmp_ge, xcmp_gt, xcmp_le, xfg_0, xfg_1, xfg_2, xfg_3, xfg_4, xpop_0, xpop_s, xsw_n, xsw_c, xtb_n, xtb_c, xenp_n, xenp_i, xenp_r, xenp_z, xenp_l, xrep_0, xrep_s, Nat.reduceSub, true_and, and_true, cat_i, cat_r, Nat.reduceAdd, Nat.reduceLT, Nat.reduceLeDiff, Nat.reduceEqDiff, xnc, Int.reduceAdd, Int.reduceSub, Int.reduceNeg, Int.reduceLE, Int.reduceLT, Int.reduceToNat, ↓reduceIte, List.length_cons, List.length_nil, xlc0, xlc1, ite_10, i10, i01, i0_2, i0_3, i0_4, i0_6, i0_7, i0_8, i0_49, i0_10, or_true, true_or, or_false, false_or, not_false_eq_true, not_true_eq_false, xnt, xI_g, eq_self, xI_2, xJ_1, false_and, and_false, obM_t, rMi, vp_tn, tn_def, lgc, nI8, nI6, nI160, nI20, nI401, nI49, aM_6, aM_7, aM_8, aM_9, aM_10, aM_11, aM_12, aM_13, aM_14, aM_15, aM_16, aM_17, aM_18, aM_19, aM_20, aM_21, aM_22, aM_23, aM_24, aM_25, aM_26, aM_27, aM_28, aM_29, aM_30, aM_31, aM_38, aM_39, aM_40, aM_41, aM_42, aM_43, aM_44, aM_45, aM_46, aM_47, lM_6, lM_7, lM_8, lM_9, lM_10, lM_11, lM_12, lM_13, lM_14, lM_15, lM_16, lM_17, lM_18, lM_19, lM_20, lM_21, lM_22, lM_23, lM_24, lM_25, lM_26, lM_27, lM_28, lM_29, lM_30, lM_31, lM_38, lM_39, lM_40, lM_41, lM_42, lM_43, lM_44, lM_45, lM_46, lM_47, dX7_letters_0, st_aload_n, dX7_letters_1, st_iconst, dX7_letters_2, st_putfield, fl_X7_210, dX7_letters_5, dX7_letters_6, st_invokevirtual, dX7_letters_9, dX7_letters_10, st_if_icmp, dX7_letters_13, dX7_letters_14, st_getfield, dX7_letters_17, st_bipush, dX7_letters_19, dX7_letters_22, dX7_letters_23, dX7_letters_24, fl_X7_183, dX7_letters_27, dX7_letters_30, st_ireturn, dX7_letters_31, dX7_letters_32, fl_X7_93, dX7_letters_35, dX7_letters_36, dX7_letters_39, dX7_letters_40, dX7_letters_43, st_iastore, dX7_letters_44, dX7_letters_45, st_dup, dX7_letters_46, dX7_letters_49, dX7_letters_50, st_iadd, dX7_letters_51, dX7_letters_54, dX7_letters_55, dX7_letters_56, dX7_letters_59, dX7_letters_60, dX7_letters_61, dX7_letters_64, st_goto, dX7_letters_67, dX7_letters_68, dX7_letters_71, st_ifCond, dX7_letters_74, dX7_letters_75, dX7_letters_76, dX7_letters_79, dX7_letters_82, dX7_letters_85, dX7_letters_86, dX7_letters_89, dX7_letters_90, c_X7_letters_213, pX7_stepAt_e, fX7_stepAt_e, Option.toList_some, Option.toList_none, List.cons_append, List.nil_append, c_X7_letters_199, pX7_wrong_e, fX7_wrong_e, ofI_0, ofI_m1, ofI_8, ofJ_1, hp1, xwp_s, xcu_s, xcu_n, xPc_e, xsub_0, xsub_n, xsub_s, k5, kn, hr, k36, e0, e2, hc8, hc0, s3, r31]
    have cont : leE σ i = false → (∀ j, j < i + 1 → leE σ j = false) := fun h2 => xall_s hH h2
    have e5 : leE σ i = decide (saM (leS σ i) = -1) := rfl
    have stop : leE σ i = true → (if leN σ < 9 then (if leN σ = 0 then ((0 : Int32), xI (leS σ 0) 0 37 ((leS σ 0).1 0 33)) else (1, leS σ (leN σ))) else (0, xI (leS σ 8) 0 37 ((leS σ 8).1 0 33))) = if i = 0 then (0, xI (leS σ i) 0 37 ((leS σ i).1 0 33)) else (1, leS σ i) := fun h2 => by
      have a1 : leN σ = i := xfs_at (by omega) h2 hH
      rw [a1, if_pos (by omega)]
      by_cases h0 : i = 0
      · subst h0; rfl
      · rw [if_neg h0, if_neg h0]
    have full : i = 8 → leE σ i = false → (if leN σ < 9 then (if leN σ = 0 then ((0 : Int32), xI (leS σ 0) 0 37 ((leS σ 0).1 0 33)) else (1, leS σ (leN σ))) else (0, xI (leS σ 8) 0 37 ((leS σ 8).1 0 33))) = (0, xI (leS σ i) 0 37 ((leS σ i).1 0 33)) := fun h h2 => by
      have a1 : leN σ = 9 := xfs_no (fun j hj => by
        by_cases h9 : j < i
        · exact hH j h9
        · rw [show j = i by omega]; exact h2)
      rw [a1, if_neg (by omega), h]
    have h8 : ¬ i = 8 → i < 8 := fun h => by omega
    have e6 : (i = 0) = ¬ (0 < i) := by simp
    simp only [hR2]
    clear hR2 ih hc8 hc0 s3 hr
    generalize (if leN σ < 9 then (if leN σ = 0 then ((0 : Int32), xI (leS σ 0) 0 37 ((leS σ 0).1 0 33)) else (1, leS σ (leN σ))) else (0, xI (leS σ 8) 0 37 ((leS σ 8).1 0 33))) = RR at *
    generalize xI (leS σ i) 0 37 ((leS σ i).1 0 33) = W at *
    generalize leS σ (i + 1) = S1 at *
    generalize saM (leS σ i) = sa at *
    generalize leS σ i = S0 at *
    grind (splits := 60)
  refine xtoC [(5, xPc (True) [some (.ref 0)] (leS σ 0))] (xcs_cons (fun _ => h1 0 (Nat.zero_le _) (fun j hj => by omega)) xcs_nil) 6 (fun cf hcf => ?_)
  have k5 : cf 5 = some (xPc (True) [some (.ref 0)] (leS σ 0)) := (hcf 5).trans rfl
  have kn : ∀ pc, ¬ pc = 5 → cf pc = none := fun pc h0 => by rw [hcf, xlk_c, if_neg h0, xlk_n]
  clear hcf
  simp (config := {maxSteps := 4000000, implicitDefEqProofs := false}) only [xwp_2, xwp_0, xwp_1, xws_s, xdd_o, xld_0, xld_s, xs1_0, xs1_1, xs1_s, xs2_0, xs2_1, xs2_s, xlg_n, xlg_i, xlg_r, xlg_z, xlg_l, xf4_0, xf4_1, xf4_2, xf4_3, xgo_e, xcmp_eq, xcmp_ne, xcmp_lt, xcmp_ge, xcmp_gt, xcmp_le, xfg_0, xfg_1, xfg_2, xfg_3, xfg_4, xpop_0, xpop_s, xsw_n, xsw_c, xtb_n, xtb_c, xenp_n, xenp_i, xenp_r, xenp_z, xenp_l, xrep_0, xrep_s, Nat.reduceSub, true_and, and_true, cat_i, cat_r, Nat.reduceAdd, Nat.reduceLT, Nat.reduceLeDiff, Nat.reduceEqDiff, xnc, Int.reduceAdd, Int.reduceSub, Int.reduceNeg, Int.reduceLE, Int.reduceLT, Int.reduceToNat, ↓reduceIte, List.length_cons, List.length_nil, xlc0, xlc1, ite_10, i10, i01, i0_2, i0_3, i0_4, i0_6, i0_7, i0_8, i0_49, i0_10, or_true, true_or, or_false, false_or, not_false_eq_true, not_true_eq_false, xnt, xI_g, eq_self, xI_2, xJ_1, false_and, and_false, obM_t, rMi, vp_tn, tn_def, lgc, nI8, nI6, nI160, nI20, nI401, nI49, aM_6, aM_7, aM_8, aM_9, aM_10, aM_11, aM_12, aM_13, aM_14, aM_15, aM_16, aM_17, aM_18, aM_19, aM_20, aM_21, aM_22, aM_23, aM_24, aM_25, aM_26, aM_27, aM_28, aM_29, aM_30, aM_31, aM_38, aM_39, aM_40, aM_41, aM_42, aM_43, aM_44, aM_45, aM_46, aM_47, lM_6, lM_7, lM_8, lM_9, lM_10, lM_11, lM_12, lM_13, lM_14, lM_15, lM_16, lM_17, lM_18, lM_19, lM_20, lM_21, lM_22, lM_23, lM_24, lM_25, lM_26, lM_27, lM_28, lM_29, lM_30, lM_31, lM_38, lM_39, lM_40, lM_41, lM_42, lM_43, lM_44, lM_45, lM_46, lM_47, dX7_letters_0, st_aload_n, dX7_letters_1, st_iconst, dX7_letters_2, st_putfield, fl_X7_210, dX7_letters_5, dX7_letters_6, st_invokevirtual, dX7_letters_9, dX7_letters_10, st_if_icmp, dX7_letters_13, dX7_letters_14, st_getfield, dX7_letters_17, st_bipush, dX7_letters_19, dX7_letters_22, dX7_letters_23, dX7_letters_24, fl_X7_183, dX7_letters_27, dX7_letters_30, st_ireturn, dX7_letters_31, dX7_letters_32, fl_X7_93, dX7_letters_35, dX7_letters_36, dX7_letters_39, dX7_letters_40, dX7_letters_43, st_iastore, dX7_letters_44, dX7_letters_45, st_dup, dX7_letters_46, dX7_letters_49, dX7_letters_50, st_iadd, dX7_letters_51, dX7_letters_54, dX7_letters_55, dX7_letters_56, dX7_letters_59, dX7_letters_60, dX7_letters_61, dX7_letters_64, st_goto, dX7_letters_67, dX7_letters_68, dX7_letters_71, st_ifCond, dX7_letters_74, dX7_letters_75, dX7_letters_76, dX7_letters_79, dX7_letters_82, dX7_letters_85, dX7_letters_86, dX7_letters_89, dX7_letters_90, c_X7_letters_213, pX7_stepAt_e, fX7_stepAt_e, Option.toList_some, Option.toList_none, List.cons_append, List.nil_append, c_X7_letters_199, pX7_wrong_e, fX7_wrong_e, ofI_0, ofI_m1, ofI_8, ofJ_1, hp1, xwp_s, xcu_s, xcu_n, xPc_e, xsub_0, xsub_n, xsub_s, k5, kn, leS_0]
theorem rX7_letters : ∀ as σ, pX7_letters as σ → ∃ K as', as = .ref K :: as' ∧ xob WM K 7 := by
  rintro as σ ⟨rfl, hpre⟩
  exact ⟨_, _, rfl, by first | exact hpre | exact hpre.1 | exact obT hpre | exact obT hpre.1 | exact obS hpre | exact obS hpre.1 | exact obM | exact ob6 | exact ob2 | exact ob0⟩
/-- whether what is told may stand there -/
def soM (σ : xS) (k i : Int32) : Bool := if k = 0 then decide (σ.1 0 35 ≤ 2) else if k = 1 then decide (σ.1 0 35 ≤ 48 ∧ itM σ (σ.1 0 35) = false) else if k = 2 then decide (σ.1 0 35 ≤ 48) else if k = 3 then (if i = 0 then decide (σ.1 0 35 ≤ 6) else if i = 1 then decide (σ.1 0 35 ≤ 48 ∧ σ.1 10 (tn (σ.1 0 35)) = 0) else if i = 2 then decide (σ.1 0 35 ≤ 3) else if i = 3 then decide (σ.1 0 35 < σ.1 0 0) else decide (σ.1 0 35 ≤ 9)) else decide (1 ≤ σ.1 0 35)
theorem le48 {x : Int32} (h0 : 0 ≤ x) (h : x ≤ 48) : tn x < 49 := tn49 ⟨h0, Int32.lt_of_le_of_lt h (by decide)⟩
def blkM (σ : xS) : Int32 × xS := if σ.1 0 33 < σ.1 0 34 ∧ lhM σ = 32 then (1, xI σ 0 33 (σ.1 0 33 + 1)) else (0, xI σ 0 37 (σ.1 0 33))
def fuB (σ : xS) (k : Int32) : Bool := decide ((k = 0 ∧ σ.1 0 0 = 8) ∨ (k = 3 ∧ σ.1 0 1 = 6))
def pX7_isSo (as : List Value) (σ : xS) : Prop := ∃ (k : Int32) (i : Int32), as = [.ref 0, .int k, .int i] ∧ ((0 ≤ σ.1 0 1) ∧ (σ.1 0 1 ≤ 6) ∧ (0 ≤ σ.1 0 35))
def fX7_isSo (as : List Value) (σ : xS) : Option Value × xS := match as with
  | [.ref 0, .int k, .int i] => (some (.int (if soM σ k i = true then 1 else 0)), σ)
  | _ => (none, σ)
theorem pX7_isSo_e {k : Int32} {i : Int32} {σ : xS} : pX7_isSo [.ref 0, .int k, .int i] σ = ((0 ≤ σ.1 0 1) ∧ (σ.1 0 1 ≤ 6) ∧ (0 ≤ σ.1 0 35)) := propext ⟨fun h => by obtain ⟨k, i, e, h⟩ := h; cases e; exact h, fun h => ⟨k, i, rfl, h⟩⟩
theorem fX7_isSo_e {k : Int32} {i : Int32} {σ : xS} : fX7_isSo [.ref 0, .int k, .int i] σ = (some (.int (if soM σ k i = true then 1 else 0)), σ) := rfl
def calX7_isSo : List (Nat × xCall) := [(177, (false, 2, pX7_isTaken, fX7_isTaken))]
theorem c_X7_isSo_177 : xlk calX7_isSo 177 = some (false, 2, pX7_isTaken, fX7_isTaken) := rfl
set_option maxHeartbeats 1000000 in
set_option maxRecDepth 100000 in
theorem mX7_isSo : xMet WM yX7_isSo cX7_isSo 3 (some .boolean) 2 pX7_isSo fX7_isSo := by
  refine xMet_of (fld := xlk fldX7) (cal := xlk calX7_isSo) (ks := xlk []) (gs := xlk []) (ro := fun _ => none) 1 (by decide) WM_nd rfl fldX7_ok xKs_nil xGs_nil (Or.inr rfl) (xcal_cons (xCk_V mX7_isTaken 7 (by decide) (by decide) (by decide) rfl (fun as σ h _ => rX7_isTaken as σ h) w_X7_177 ⟨by decide, by decide, by decide +kernel⟩) xcal_nil) ?_ ?_
  · rintro av σ ⟨k, i, rfl, hpre⟩
    exact Nat.le_of_ble_eq_true rfl
  rintro av σ ⟨k, i, rfl, ⟨hp1, hp2, hp3⟩⟩ Rt hR
  have h48 : σ.1 0 35 ≤ 48 → tn (σ.1 0 35) < 49 := le48 hp3
  have e5 : soM σ k i = if k = 0 then decide (σ.1 0 35 ≤ 2) else if k = 1 then decide (σ.1 0 35 ≤ 48 ∧ itM σ (σ.1 0 35) = false) else if k = 2 then decide (σ.1 0 35 ≤ 48) else if k = 3 then (if i = 0 then decide (σ.1 0 35 ≤ 6) else if i = 1 then decide (σ.1 0 35 ≤ 48 ∧ σ.1 10 (tn (σ.1 0 35)) = 0) else if i = 2 then decide (σ.1 0 35 ≤ 3) else if i = 3 then decide (σ.1 0 35 < σ.1 0 0) else decide (σ.1 0 35 ≤ 9)) else decide (1 ≤ σ.1 0 35) := rfl
  refine xgo0 30 ?_
  simp -implicitDefEqProofs only [xwp_2, xwp_0, xwp_1, xws_s, xdd_o, xld_0, xld_s, xs1_0, xs1_1, xs1_s, xs2_0, xs2_1, xs2_s, xlg_n, xlg_i, xlg_r, xlg_z, xlg_l, xf4_0, xf4_1, xf4_2, xf4_3, xgo_e, xcmp_eq, xcmp_ne, xcmp_lt, xcmp_ge, xcmp_gt, xcmp_le, xfg_0, xfg_1, xfg_2, xfg_3, xfg_4, xpop_0, xpop_s, xsw_n, xsw_c, xtb_n, xtb_c, xenp_n, xenp_i, xenp_r, xenp_z, xenp_l, xrep_0, xrep_s, Nat.reduceSub, true_and, and_true, cat_i, cat_r, Nat.reduceAdd, Nat.reduceLT, Nat.reduceLeDiff, Nat.reduceEqDiff, xnc, Int.reduceAdd, Int.reduceSub, Int.reduceNeg, Int.reduceLE, Int.reduceLT, Int.reduceToNat, ↓reduceIte, List.length_cons, List.length_nil, xlc0, xlc1, ite_10, i10, i01, i0_2, i0_3, i0_4, i0_6, i0_7, i0_8, i0_49, i0_10, or_true, true_or, or_false, false_or, not_false_eq_true, not_true_eq_false, xnt, xI_g, eq_self, xI_2, xJ_1, false_and, and_false, obM_t, rMi, vp_tn, tn_def, lgc, nI8, nI6, nI160, nI20, nI401, nI49, aM_6, aM_7, aM_8, aM_9, aM_10, aM_11, aM_12, aM_13, aM_14, aM_15, aM_16, aM_17, aM_18, aM_19, aM_20, aM_21, aM_22, aM_23, aM_24, aM_25, aM_26, aM_27, aM_28, aM_29, aM_30, aM_31, aM_38, aM_39, aM_40, aM_41, aM_42, aM_43, aM_44, aM_45, aM_46, aM_47, lM_6, lM_7, lM_8, lM_9, lM_10, lM_11, lM_12, lM_13, lM_14, lM_15, lM_16, lM_17, lM_18, lM_19, lM_20, lM_21, lM_22, lM_23, lM_24, lM_25, lM_26, lM_27, lM_28, lM_29, lM_30, lM_31, lM_38, lM_39, lM_40, lM_41, lM_42, lM_43, lM_44, lM_45, lM_46, lM_47, dX7_isSo_0, st_iload_n, dX7_isSo_1, st_tableswitch, dX7_isSo_32, st_aload_n, dX7_isSo_33, st_getfield, fl_X7_192, dX7_isSo_36, st_iconst, dX7_isSo_37, st_if_icmp, dX7_isSo_40, dX7_isSo_41, st_goto, dX7_isSo_44, dX7_isSo_45, st_ireturn, dX7_isSo_46, dX7_isSo_47, dX7_isSo_50, st_bipush, dX7_isSo_52, dX7_isSo_55, dX7_isSo_56, dX7_isSo_57, dX7_isSo_60, st_invokevirtual, dX7_isSo_63, st_ifCond, dX7_isSo_66, dX7_isSo_67, dX7_isSo_70, dX7_isSo_71, dX7_isSo_72, dX7_isSo_73, dX7_isSo_76, dX7_isSo_78, dX7_isSo_81, dX7_isSo_82, dX7_isSo_85, dX7_isSo_86, dX7_isSo_87, dX7_isSo_88, dX7_isSo_91, dX7_isSo_92, dX7_isSo_95, dX7_isSo_97, dX7_isSo_100, dX7_isSo_101, dX7_isSo_104, dX7_isSo_105, dX7_isSo_108, dX7_isSo_109, dX7_isSo_110, dX7_isSo_113, dX7_isSo_114, dX7_isSo_117, dX7_isSo_119, dX7_isSo_122, dX7_isSo_123, fl_X7_29, dX7_isSo_126, dX7_isSo_127, dX7_isSo_130, st_iaload, dX7_isSo_131, dX7_isSo_134, dX7_isSo_135, dX7_isSo_138, dX7_isSo_139, dX7_isSo_142, dX7_isSo_143, dX7_isSo_144, dX7_isSo_147, dX7_isSo_148, dX7_isSo_151, dX7_isSo_152, dX7_isSo_155, dX7_isSo_156, dX7_isSo_159, dX7_isSo_160, dX7_isSo_163, dX7_isSo_164, dX7_isSo_165, dX7_isSo_168, dX7_isSo_169, dX7_isSo_172, dX7_isSo_173, fl_X7_129, dX7_isSo_176, dX7_isSo_179, dX7_isSo_180, dX7_isSo_183, dX7_isSo_184, dX7_isSo_187, dX7_isSo_188, dX7_isSo_191, dX7_isSo_193, dX7_isSo_196, dX7_isSo_197, dX7_isSo_200, dX7_isSo_201, dX7_isSo_202, dX7_isSo_203, dX7_isSo_206, dX7_isSo_207, dX7_isSo_210, dX7_isSo_211, dX7_isSo_214, dX7_isSo_215, c_X7_isSo_177, pX7_isTaken_e, fX7_isTaken_e, Option.toList_some, Option.toList_none, List.cons_append, List.nil_append, ofI_m2, ofI_m1, ofI_0, ofJ_1, ofJ_2, ofJ_3, ofI_4, ofI_5, ofI_6, ofI_7, ofI_8, ofI_9, ofI_10, ofI_11, ofI_48, hp1, hp2, hp3]
  simp only [hR, fX7_isSo_e]
  clear hR
  generalize soM σ k i = so at *
  generalize itM σ (σ.1 0 35) = it at *
  generalize σ.1 10 (tn (σ.1 0 35)) = wl at *
  generalize σ.1 0 35 = t at *
  generalize σ.1 0 0 = gg at *
  clear hp1 hp2
  grind (splits := 80)
theorem rX7_isSo : ∀ as σ, pX7_isSo as σ → ∃ K as', as = .ref K :: as' ∧ xob WM K 7 := by
  rintro as σ ⟨k, i, rfl, hpre⟩
  exact ⟨_, _, rfl, by first | exact hpre | exact hpre.1 | exact obT hpre | exact obT hpre.1 | exact obS hpre | exact obS hpre.1 | exact obM | exact ob6 | exact ob2 | exact ob0⟩
def pX7_blank (as : List Value) (σ : xS) : Prop := as = [.ref 0] ∧ (rdP σ)
def fX7_blank (as : List Value) (σ : xS) : Option Value × xS := match as with
  | [.ref 0] => (some (.int (blkM σ).1), (blkM σ).2)
  | _ => (none, σ)
theorem pX7_blank_e {σ : xS} : pX7_blank [.ref 0] σ = (rdP σ) := propext ⟨fun h => h.2, fun h => ⟨rfl, h⟩⟩
theorem fX7_blank_e  {σ : xS} : fX7_blank [.ref 0] σ = (some (.int (blkM σ).1), (blkM σ).2) := rfl
def calX7_blank : List (Nat × xCall) := [(199, (false, 2, pX7_wrong, fX7_wrong))]
theorem c_X7_blank_199 : xlk calX7_blank 199 = some (false, 2, pX7_wrong, fX7_wrong) := rfl
set_option maxHeartbeats 1000000 in
set_option maxRecDepth 100000 in
theorem mX7_blank : xMet WM yX7_blank cX7_blank 1 (some .boolean) 2 pX7_blank fX7_blank := by
  refine xMet_of (fld := xlk fldX7) (cal := xlk calX7_blank) (ks := xlk []) (gs := xlk []) (ro := fun _ => none) 1 (by decide) WM_nd rfl fldX7_ok xKs_nil xGs_nil (Or.inr rfl) (xcal_cons (xCk_V mX7_wrong 7 (by decide) (by decide) (by decide) rfl (fun as σ h _ => rX7_wrong as σ h) w_X7_199 ⟨by decide, by decide, by decide +kernel⟩) xcal_nil) ?_ ?_
  · rintro av σ ⟨rfl, hpre⟩
    exact Nat.le_of_ble_eq_true rfl
  rintro av σ ⟨rfl, hp1⟩ Rt hR
  have hR2 := hR2_g (Rt := Rt) (F := blkM σ) (fun r s' => by rw [hR, fX7_blank_e])
  clear hR
  have hx := rd_ix hp1
  have hx1 : σ.1 0 33 < σ.1 0 34 → 0 ≤ σ.1 0 32 + σ.1 0 33 := fun h => (hx h).1
  have hx2 : σ.1 0 33 < σ.1 0 34 → tn (σ.1 0 32 + σ.1 0 33) < 1280 := fun h => (hx h).2
  refine xgo0 31 ?_
  simp -implicitDefEqProofs only [xwp_2, xwp_0, xwp_1, xws_s, xdd_o, xld_0, xld_s, xs1_0, xs1_1, xs1_s, xs2_0, xs2_1, xs2_s, xlg_n, xlg_i, xlg_r, xlg_z, xlg_l, xf4_0, xf4_1, xf4_2, xf4_3, xgo_e, xcmp_eq, xcmp_ne, xcmp_lt, xcmp_ge, xcmp_gt, xcmp_le, xfg_0, xfg_1, xfg_2, xfg_3, xfg_4, xpop_0, xpop_s, xsw_n, xsw_c, xtb_n, xtb_c, xenp_n, xenp_i, xenp_r, xenp_z, xenp_l, xrep_0, xrep_s, Nat.reduceSub, true_and, and_true, cat_i, cat_r, Nat.reduceAdd, Nat.reduceLT, Nat.reduceLeDiff, Nat.reduceEqDiff, xnc, Int.reduceAdd, Int.reduceSub, Int.reduceNeg, Int.reduceLE, Int.reduceLT, Int.reduceToNat, ↓reduceIte, List.length_cons, List.length_nil, xlc0, xlc1, ite_10, i10, i01, i0_2, i0_3, i0_4, i0_6, i0_7, i0_8, i0_49, i0_10, or_true, true_or, or_false, false_or, not_false_eq_true, not_true_eq_false, xnt, xI_g, eq_self, xI_2, xJ_1, false_and, and_false, obM_t, rMi, vp_tn, tn_def, lgc, nI8, nI6, nI160, nI20, nI401, nI49, aM_6, aM_7, aM_8, aM_9, aM_10, aM_11, aM_12, aM_13, aM_14, aM_15, aM_16, aM_17, aM_18, aM_19, aM_20, aM_21, aM_22, aM_23, aM_24, aM_25, aM_26, aM_27, aM_28, aM_29, aM_30, aM_31, aM_38, aM_39, aM_40, aM_41, aM_42, aM_43, aM_44, aM_45, aM_46, aM_47, lM_6, lM_7, lM_8, lM_9, lM_10, lM_11, lM_12, lM_13, lM_14, lM_15, lM_16, lM_17, lM_18, lM_19, lM_20, lM_21, lM_22, lM_23, lM_24, lM_25, lM_26, lM_27, lM_28, lM_29, lM_30, lM_31, lM_38, lM_39, lM_40, lM_41, lM_42, lM_43, lM_44, lM_45, lM_46, lM_47, dX7_blank_0, st_aload_n, dX7_blank_1, st_getfield, fl_X7_183, dX7_blank_4, dX7_blank_5, fl_X7_186, dX7_blank_8, st_if_icmp, dX7_blank_11, dX7_blank_12, fl_X7_80, dX7_blank_15, dX7_blank_16, fl_X7_189, dX7_blank_19, dX7_blank_20, dX7_blank_23, st_iadd, dX7_blank_24, st_laload, dX7_blank_25, st_l2i, dX7_blank_26, st_bipush, dX7_blank_28, dX7_blank_31, dX7_blank_32, dX7_blank_33, dX7_blank_36, st_invokevirtual, dX7_blank_39, st_ireturn, dX7_blank_40, dX7_blank_41, st_dup, dX7_blank_42, dX7_blank_45, st_iconst, dX7_blank_46, dX7_blank_47, st_putfield, dX7_blank_50, dX7_blank_51, c_X7_blank_199, pX7_wrong_e, fX7_wrong_e, Option.toList_some, Option.toList_none, List.cons_append, List.nil_append, ofI_32, ofJ_1, hp1, lhM_f]
  simp only [hR2, blkM]
  clear hR2 hp1 hx
  generalize lhM σ = c at *
  generalize tn (σ.1 0 32 + σ.1 0 33) = t at *
  grind (splits := 40)
theorem rX7_blank : ∀ as σ, pX7_blank as σ → ∃ K as', as = .ref K :: as' ∧ xob WM K 7 := by
  rintro as σ ⟨rfl, hpre⟩
  exact ⟨_, _, rfl, by first | exact hpre | exact hpre.1 | exact obT hpre | exact obT hpre.1 | exact obS hpre | exact obS hpre.1 | exact obM | exact ob6 | exact ob2 | exact ob0⟩
def pX7_isFull (as : List Value) (σ : xS) : Prop := ∃ (k : Int32), as = [.ref 0, .int k] ∧ (True)
def fX7_isFull (as : List Value) (σ : xS) : Option Value × xS := match as with
  | [.ref 0, .int k] => (some (.int (if fuB σ k = true then 1 else 0)), σ)
  | _ => (none, σ)
theorem pX7_isFull_e {k : Int32} {σ : xS} : pX7_isFull [.ref 0, .int k] σ = (True) := propext ⟨fun h => by obtain ⟨k, e, h⟩ := h; cases e; exact h, fun h => ⟨k, rfl, h⟩⟩
theorem fX7_isFull_e {k : Int32} {σ : xS} : fX7_isFull [.ref 0, .int k] σ = (some (.int (if fuB σ k = true then 1 else 0)), σ) := rfl
def calX7_isFull : List (Nat × xCall) := []
set_option maxHeartbeats 1000000 in
set_option maxRecDepth 100000 in
theorem mX7_isFull : xMet WM yX7_isFull cX7_isFull 2 (some .boolean) 1 pX7_isFull fX7_isFull := by
  refine xMet_of (fld := xlk fldX7) (cal := xlk calX7_isFull) (ks := xlk []) (gs := xlk []) (ro := fun _ => none) 1 (by decide) WM_nd rfl fldX7_ok xKs_nil xGs_nil (Or.inr rfl) xcal_nil ?_ ?_
  · rintro av σ ⟨k, rfl, hpre⟩
    exact Nat.le_of_ble_eq_true rfl
  rintro av σ ⟨k, rfl, hp1⟩ Rt hR
  have e5 : fuB σ k = decide ((k = 0 ∧ σ.1 0 0 = 8) ∨ (k = 3 ∧ σ.1 0 1 = 6)) := rfl
  refine xgo0 19 ?_
  simp -implicitDefEqProofs only [xwp_2, xwp_0, xwp_1, xws_s, xdd_o, xld_0, xld_s, xs1_0, xs1_1, xs1_s, xs2_0, xs2_1, xs2_s, xlg_n, xlg_i, xlg_r, xlg_z, xlg_l, xf4_0, xf4_1, xf4_2, xf4_3, xgo_e, xcmp_eq, xcmp_ne, xcmp_lt, xcmp_ge, xcmp_gt, xcmp_le, xfg_0, xfg_1, xfg_2, xfg_3, xfg_4, xpop_0, xpop_s, xsw_n, xsw_c, xtb_n, xtb_c, xenp_n, xenp_i, xenp_r, xenp_z, xenp_l, xrep_0, xrep_s, Nat.reduceSub, true_and, and_true, cat_i, cat_r, Nat.reduceAdd, Nat.reduceLT, Nat.reduceLeDiff, Nat.reduceEqDiff, xnc, Int.reduceAdd, Int.reduceSub, Int.reduceNeg, Int.reduceLE, Int.reduceLT, Int.reduceToNat, ↓reduceIte, List.length_cons, List.length_nil, xlc0, xlc1, ite_10, i10, i01, i0_2, i0_3, i0_4, i0_6, i0_7, i0_8, i0_49, i0_10, or_true, true_or, or_false, false_or, not_false_eq_true, not_true_eq_false, xnt, xI_g, eq_self, xI_2, xJ_1, false_and, and_false, obM_t, rMi, vp_tn, tn_def, lgc, nI8, nI6, nI160, nI20, nI401, nI49, aM_6, aM_7, aM_8, aM_9, aM_10, aM_11, aM_12, aM_13, aM_14, aM_15, aM_16, aM_17, aM_18, aM_19, aM_20, aM_21, aM_22, aM_23, aM_24, aM_25, aM_26, aM_27, aM_28, aM_29, aM_30, aM_31, aM_38, aM_39, aM_40, aM_41, aM_42, aM_43, aM_44, aM_45, aM_46, aM_47, lM_6, lM_7, lM_8, lM_9, lM_10, lM_11, lM_12, lM_13, lM_14, lM_15, lM_16, lM_17, lM_18, lM_19, lM_20, lM_21, lM_22, lM_23, lM_24, lM_25, lM_26, lM_27, lM_28, lM_29, lM_30, lM_31, lM_38, lM_39, lM_40, lM_41, lM_42, lM_43, lM_44, lM_45, lM_46, lM_47, dX7_isFull_0, st_iload_n, dX7_isFull_1, st_ifCond, dX7_isFull_4, st_aload_n, dX7_isFull_5, st_getfield, fl_X7_129, dX7_isFull_8, st_bipush, dX7_isFull_10, st_if_icmp, dX7_isFull_13, dX7_isFull_14, st_iconst, dX7_isFull_15, dX7_isFull_18, dX7_isFull_19, fl_X7_126, dX7_isFull_22, dX7_isFull_24, dX7_isFull_27, dX7_isFull_28, st_goto, dX7_isFull_31, dX7_isFull_32, st_ireturn, ofI_8, ofJ_3, ofI_6, ofJ_1, ofI_0, hp1]
  simp only [hR, fX7_isFull_e]
  clear hR
  generalize fuB σ k = u at *
  grind (splits := 40)
theorem rX7_isFull : ∀ as σ, pX7_isFull as σ → ∃ K as', as = .ref K :: as' ∧ xob WM K 7 := by
  rintro as σ ⟨k, rfl, hpre⟩
  exact ⟨_, _, rfl, by first | exact hpre | exact hpre.1 | exact obT hpre | exact obT hpre.1 | exact obS hpre | exact obS hpre.1 | exact obM | exact ob6 | exact ob2 | exact ob0⟩
