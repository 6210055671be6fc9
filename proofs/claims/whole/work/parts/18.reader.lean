/-- the letter at a place -/
def ltA (σ : xS) (i : Int32) : Int32 := if 0 ≤ i ∧ i < σ.1 2 2 ∧ i < 160 then σ.1 3 (tn i) else -1
def ltH (σ : xS) : Int32 := ltA σ (σ.1 2 0)
theorem ltH_e {σ : xS} : ltA σ (σ.1 2 0) = ltH σ := rfl
theorem lt160 {i : Int32} (h : 0 ≤ i ∧ i < 160) : tn i < 160 := by
  have h1 : i.toInt < 160 := by simpa using Int32.lt_iff_toInt_lt.mp h.2
  show i.toInt.toNat < 160
  omega
def pX2_letterAt (as : List Value) (σ : xS) : Prop := ∃ (i : Int32), as = [.ref 2, .int i] ∧ (True)
def fX2_letterAt (as : List Value) (σ : xS) : Option Value × xS := match as with
  | [.ref 2, .int i] => (some (.int (ltA σ i)), σ)
  | _ => (none, σ)
theorem pX2_letterAt_e {i : Int32} {σ : xS} : pX2_letterAt [.ref 2, .int i] σ = (True) := propext ⟨fun h => by obtain ⟨i, e, h⟩ := h; cases e; exact h, fun h => ⟨i, rfl, h⟩⟩
theorem fX2_letterAt_e {i : Int32} {σ : xS} : fX2_letterAt [.ref 2, .int i] σ = (some (.int (ltA σ i)), σ) := rfl
def calX2_letterAt : List (Nat × xCall) := []
set_option maxHeartbeats 4000000 in
set_option maxRecDepth 100000 in
theorem mX2_letterAt : xMet WX yX2_letterAt cX2_letterAt 2 (some .int) 1 pX2_letterAt fX2_letterAt := by
  refine xMet_of (fld := xlk fldX2) (cal := xlk calX2_letterAt) (ks := xlk []) (gs := xlk []) (ro := fun _ => none) 0 (by decide) WX_nd rfl fldX2_ok xKs_nil xGs_nil (Or.inr rfl) xcal_nil ?_ ?_
  · rintro av σ ⟨i, rfl, hpre⟩
    exact Nat.le_of_ble_eq_true rfl
  rintro av σ ⟨i, rfl, hp1⟩ Rt hR
  refine xgo0 20 ?_
  simp (config := {maxSteps := 2000000}) only [xwp_2, xwp_0, xwp_1, xws_s, xdd_o, xld_0, xld_s, xs1_0, xs1_1, xs1_s, xs2_0, xs2_1, xs2_s, xlg_n, xlg_i, xlg_r, xlg_z, xlg_l, xf4_0, xf4_1, xf4_2, xf4_3, xgo_e, xcmp_eq, xcmp_ne, xcmp_lt, xcmp_ge, xcmp_gt, xcmp_le, xfg_0, xfg_1, xfg_2, xfg_3, xfg_4, xpop_0, xpop_s, xsw_n, xsw_c, xtb_n, xtb_c, xenp_n, xenp_i, xenp_r, xenp_z, xenp_l, xrep_0, xrep_s, Nat.reduceSub, true_and, and_true, cat_i, cat_r, Nat.reduceAdd, Nat.reduceLT, Nat.reduceLeDiff, Nat.reduceEqDiff, xnc, Int.reduceAdd, Int.reduceSub, Int.reduceNeg, Int.reduceLE, Int.reduceLT, Int.reduceToNat, ↓reduceIte, List.length_cons, List.length_nil, xlc0, xlc1, ite_10, i10, i01, i0_2, i0_3, i0_4, i0_6, i0_7, i0_8, i0_49, i0_10, or_true, true_or, or_false, false_or, not_false_eq_true, not_true_eq_false, xnt, xI_g, eq_self, xI_2, xJ_1, false_and, and_false, obT_t, obS_t, ob6_t, ob2_t, ob0_t, kT1_t, kT2_t, kT3_t, kT4_t, lT1, lT2, rT6, rT7, rT8, rT9, rT1i, rT2i, rS2, kSe_t, lSe, r0_0, r0_1, r0_2, r0_3, r0_4, r0_5, r0_6, r0_7, r0_8, r0_9, r1_i, r2_4, r2_5, r4_4, a1_t, a3_t, a5_t, a6_t, a7_t, a8_t, l1, l3, l5, l6, l7, l8, T1, T2, T3, T4, nI8, nI6, nI160, nI20, nI401, nI49, ob5_t, ob1_t, vp_tn, tn_def, lgc, dX2_letterAt_0, st_iload_n, dX2_letterAt_1, st_ifCond, dX2_letterAt_4, dX2_letterAt_5, st_aload_n, dX2_letterAt_6, st_getfield, fl_X2_19, dX2_letterAt_9, st_if_icmp, dX2_letterAt_12, dX2_letterAt_13, dX2_letterAt_14, fl_X2_25, dX2_letterAt_17, st_arraylength, dX2_letterAt_18, dX2_letterAt_21, dX2_letterAt_22, dX2_letterAt_25, dX2_letterAt_26, st_iaload, dX2_letterAt_27, st_goto, dX2_letterAt_30, st_iconst, dX2_letterAt_31, st_ireturn, ofI_m1, hp1]
  simp only [hR, fX2_letterAt_e, ltA]
  have h160 : ∀ h : 0 ≤ i ∧ i < 160, tn i < 160 := lt160
  grind
theorem rX2_letterAt : ∀ as σ, pX2_letterAt as σ → ∃ K as', as = .ref K :: as' ∧ xob WX K 2 := by
  rintro as σ ⟨i, rfl, hpre⟩
  exact ⟨_, _, rfl, by first | exact hpre | exact hpre.1 | exact obT hpre | exact obT hpre.1 | exact obS hpre | exact obS hpre.1 | exact obM | exact ob6 | exact ob2 | exact ob0⟩
def rsV (σ : xS) (c : Int32) : Int32 := if ltH σ = c then 1 else 0
def rsS (σ : xS) (c : Int32) : xS := if ltH σ = c then xI σ 2 0 (σ.1 2 0 + 1) else σ
def pX2_readSign (as : List Value) (σ : xS) : Prop := ∃ (c : Int32), as = [.ref 2, .int c] ∧ (True)
def fX2_readSign (as : List Value) (σ : xS) : Option Value × xS := match as with
  | [.ref 2, .int c] => (some (.int (rsV σ c)), rsS σ c)
  | _ => (none, σ)
theorem pX2_readSign_e {c : Int32} {σ : xS} : pX2_readSign [.ref 2, .int c] σ = (True) := propext ⟨fun h => by obtain ⟨c, e, h⟩ := h; cases e; exact h, fun h => ⟨c, rfl, h⟩⟩
theorem fX2_readSign_e {c : Int32} {σ : xS} : fX2_readSign [.ref 2, .int c] σ = (some (.int (rsV σ c)), rsS σ c) := rfl
def calX2_readSign : List (Nat × xCall) := [(110, (false, 2, pX2_letterAt, fX2_letterAt))]
theorem c_X2_readSign_110 : xlk calX2_readSign 110 = some (false, 2, pX2_letterAt, fX2_letterAt) := rfl
set_option maxHeartbeats 4000000 in
set_option maxRecDepth 100000 in
theorem mX2_readSign : xMet WX yX2_readSign cX2_readSign 2 (some .boolean) 2 pX2_readSign fX2_readSign := by
  refine xMet_of (fld := xlk fldX2) (cal := xlk calX2_readSign) (ks := xlk []) (gs := xlk []) (ro := fun _ => none) 1 (by decide) WX_nd rfl fldX2_ok xKs_nil xGs_nil (Or.inr rfl) (xcal_cons (xCk_V mX2_letterAt 2 (by decide) (by decide) (by decide) rfl (fun as σ h _ => rX2_letterAt as σ h) w_X2_110 ⟨by decide, by decide, by decide +kernel⟩) xcal_nil) ?_ ?_
  · rintro av σ ⟨c, rfl, hpre⟩
    exact Nat.le_of_ble_eq_true rfl
  rintro av σ ⟨c, rfl, hp1⟩ Rt hR
  refine xgo0 18 ?_
  simp (config := {maxSteps := 2000000}) only [xwp_2, xwp_0, xwp_1, xws_s, xdd_o, xld_0, xld_s, xs1_0, xs1_1, xs1_s, xs2_0, xs2_1, xs2_s, xlg_n, xlg_i, xlg_r, xlg_z, xlg_l, xf4_0, xf4_1, xf4_2, xf4_3, xgo_e, xcmp_eq, xcmp_ne, xcmp_lt, xcmp_ge, xcmp_gt, xcmp_le, xfg_0, xfg_1, xfg_2, xfg_3, xfg_4, xpop_0, xpop_s, xsw_n, xsw_c, xtb_n, xtb_c, xenp_n, xenp_i, xenp_r, xenp_z, xenp_l, xrep_0, xrep_s, Nat.reduceSub, true_and, and_true, cat_i, cat_r, Nat.reduceAdd, Nat.reduceLT, Nat.reduceLeDiff, Nat.reduceEqDiff, xnc, Int.reduceAdd, Int.reduceSub, Int.reduceNeg, Int.reduceLE, Int.reduceLT, Int.reduceToNat, ↓reduceIte, List.length_cons, List.length_nil, xlc0, xlc1, ite_10, i10, i01, i0_2, i0_3, i0_4, i0_6, i0_7, i0_8, i0_49, i0_10, or_true, true_or, or_false, false_or, not_false_eq_true, not_true_eq_false, xnt, xI_g, eq_self, xI_2, xJ_1, false_and, and_false, obT_t, obS_t, ob6_t, ob2_t, ob0_t, kT1_t, kT2_t, kT3_t, kT4_t, lT1, lT2, rT6, rT7, rT8, rT9, rT1i, rT2i, rS2, kSe_t, lSe, r0_0, r0_1, r0_2, r0_3, r0_4, r0_5, r0_6, r0_7, r0_8, r0_9, r1_i, r2_4, r2_5, r4_4, a1_t, a3_t, a5_t, a6_t, a7_t, a8_t, l1, l3, l5, l6, l7, l8, T1, T2, T3, T4, nI8, nI6, nI160, nI20, nI401, nI49, ob5_t, ob1_t, vp_tn, tn_def, lgc, dX2_readSign_0, st_aload_n, dX2_readSign_1, dX2_readSign_2, st_getfield, fl_X2_9, dX2_readSign_5, st_invokevirtual, dX2_readSign_8, st_iload_n, dX2_readSign_9, st_if_icmp, dX2_readSign_12, st_iconst, dX2_readSign_13, st_ireturn, dX2_readSign_14, dX2_readSign_15, st_dup, dX2_readSign_16, dX2_readSign_19, dX2_readSign_20, st_iadd, dX2_readSign_21, st_putfield, dX2_readSign_24, dX2_readSign_25, c_X2_readSign_110, pX2_letterAt_e, fX2_letterAt_e, Option.toList_some, Option.toList_none, List.cons_append, List.nil_append, ofI_0, ofI_1, hp1]
  simp only [hR, fX2_readSign_e, rsV, rsS, ltH]
  grind
theorem rX2_readSign : ∀ as σ, pX2_readSign as σ → ∃ K as', as = .ref K :: as' ∧ xob WX K 2 := by
  rintro as σ ⟨c, rfl, hpre⟩
  exact ⟨_, _, rfl, by first | exact hpre | exact hpre.1 | exact obT hpre | exact obT hpre.1 | exact obS hpre | exact obS hpre.1 | exact obM | exact ob6 | exact ob2 | exact ob0⟩
def dgV (σ : xS) : Int32 := if 48 ≤ ltH σ ∧ ltH σ ≤ 57 then ltH σ - 48 else -1
def pX2_digitHere (as : List Value) (σ : xS) : Prop := as = [.ref 2] ∧ (True)
def fX2_digitHere (as : List Value) (σ : xS) : Option Value × xS := match as with
  | [.ref 2] => (some (.int (dgV σ)), σ)
  | _ => (none, σ)
theorem pX2_digitHere_e {σ : xS} : pX2_digitHere [.ref 2] σ = (True) := propext ⟨fun h => h.2, fun h => ⟨rfl, h⟩⟩
theorem fX2_digitHere_e  {σ : xS} : fX2_digitHere [.ref 2] σ = (some (.int (dgV σ)), σ) := rfl
def calX2_digitHere : List (Nat × xCall) := [(110, (false, 2, pX2_letterAt, fX2_letterAt))]
theorem c_X2_digitHere_110 : xlk calX2_digitHere 110 = some (false, 2, pX2_letterAt, fX2_letterAt) := rfl
set_option maxHeartbeats 4000000 in
set_option maxRecDepth 100000 in
theorem mX2_digitHere : xMet WX yX2_digitHere cX2_digitHere 2 (some .int) 2 pX2_digitHere fX2_digitHere := by
  refine xMet_of (fld := xlk fldX2) (cal := xlk calX2_digitHere) (ks := xlk []) (gs := xlk []) (ro := fun _ => none) 0 (by decide) WX_nd rfl fldX2_ok xKs_nil xGs_nil (Or.inr rfl) (xcal_cons (xCk_V mX2_letterAt 2 (by decide) (by decide) (by decide) rfl (fun as σ h _ => rX2_letterAt as σ h) w_X2_110 ⟨by decide, by decide, by decide +kernel⟩) xcal_nil) ?_ ?_
  · rintro av σ ⟨rfl, hpre⟩
    exact Nat.le_of_ble_eq_true rfl
  rintro av σ ⟨rfl, hp1⟩ Rt hR
  refine xgo0 19 ?_
  simp (config := {maxSteps := 2000000}) only [xwp_2, xwp_0, xwp_1, xws_s, xdd_o, xld_0, xld_s, xs1_0, xs1_1, xs1_s, xs2_0, xs2_1, xs2_s, xlg_n, xlg_i, xlg_r, xlg_z, xlg_l, xf4_0, xf4_1, xf4_2, xf4_3, xgo_e, xcmp_eq, xcmp_ne, xcmp_lt, xcmp_ge, xcmp_gt, xcmp_le, xfg_0, xfg_1, xfg_2, xfg_3, xfg_4, xpop_0, xpop_s, xsw_n, xsw_c, xtb_n, xtb_c, xenp_n, xenp_i, xenp_r, xenp_z, xenp_l, xrep_0, xrep_s, Nat.reduceSub, true_and, and_true, cat_i, cat_r, Nat.reduceAdd, Nat.reduceLT, Nat.reduceLeDiff, Nat.reduceEqDiff, xnc, Int.reduceAdd, Int.reduceSub, Int.reduceNeg, Int.reduceLE, Int.reduceLT, Int.reduceToNat, ↓reduceIte, List.length_cons, List.length_nil, xlc0, xlc1, ite_10, i10, i01, i0_2, i0_3, i0_4, i0_6, i0_7, i0_8, i0_49, i0_10, or_true, true_or, or_false, false_or, not_false_eq_true, not_true_eq_false, xnt, xI_g, eq_self, xI_2, xJ_1, false_and, and_false, obT_t, obS_t, ob6_t, ob2_t, ob0_t, kT1_t, kT2_t, kT3_t, kT4_t, lT1, lT2, rT6, rT7, rT8, rT9, rT1i, rT2i, rS2, kSe_t, lSe, r0_0, r0_1, r0_2, r0_3, r0_4, r0_5, r0_6, r0_7, r0_8, r0_9, r1_i, r2_4, r2_5, r4_4, a1_t, a3_t, a5_t, a6_t, a7_t, a8_t, l1, l3, l5, l6, l7, l8, T1, T2, T3, T4, nI8, nI6, nI160, nI20, nI401, nI49, ob5_t, ob1_t, vp_tn, tn_def, lgc, dX2_digitHere_0, st_aload_n, dX2_digitHere_1, dX2_digitHere_2, st_getfield, fl_X2_9, dX2_digitHere_5, st_invokevirtual, dX2_digitHere_8, st_istore_n, dX2_digitHere_9, st_iload_n, dX2_digitHere_10, st_bipush, dX2_digitHere_12, st_if_icmp, dX2_digitHere_15, dX2_digitHere_16, dX2_digitHere_18, dX2_digitHere_21, dX2_digitHere_22, dX2_digitHere_24, st_isub, dX2_digitHere_25, st_goto, dX2_digitHere_28, st_iconst, dX2_digitHere_29, st_ireturn, c_X2_digitHere_110, pX2_letterAt_e, fX2_letterAt_e, Option.toList_some, Option.toList_none, List.cons_append, List.nil_append, ofI_48, ofI_57, ofI_m1, hp1]
  simp only [hR, fX2_digitHere_e, dgV, ltH]
  grind
theorem rX2_digitHere : ∀ as σ, pX2_digitHere as σ → ∃ K as', as = .ref K :: as' ∧ xob WX K 2 := by
  rintro as σ ⟨rfl, hpre⟩
  exact ⟨_, _, rfl, by first | exact hpre | exact hpre.1 | exact obT hpre | exact obT hpre.1 | exact obS hpre | exact obS hpre.1 | exact obM | exact ob6 | exact ob2 | exact ob0⟩
def pX2_noSuchNumber (as : List Value) (σ : xS) : Prop := as = [.ref 2] ∧ (True)
def fX2_noSuchNumber (as : List Value) (σ : xS) : Option Value × xS := match as with
  | [.ref 2] => (some (.int (-1)), xI σ 2 0 (σ.1 2 3))
  | _ => (none, σ)
theorem pX2_noSuchNumber_e {σ : xS} : pX2_noSuchNumber [.ref 2] σ = (True) := propext ⟨fun h => h.2, fun h => ⟨rfl, h⟩⟩
theorem fX2_noSuchNumber_e  {σ : xS} : fX2_noSuchNumber [.ref 2] σ = (some (.int (-1)), xI σ 2 0 (σ.1 2 3)) := rfl
def calX2_noSuchNumber : List (Nat × xCall) := []
set_option maxHeartbeats 4000000 in
set_option maxRecDepth 100000 in
theorem mX2_noSuchNumber : xMet WX yX2_noSuchNumber cX2_noSuchNumber 1 (some .int) 1 pX2_noSuchNumber fX2_noSuchNumber := by
  refine xMet_of (fld := xlk fldX2) (cal := xlk calX2_noSuchNumber) (ks := xlk []) (gs := xlk []) (ro := fun _ => none) 0 (by decide) WX_nd rfl fldX2_ok xKs_nil xGs_nil (Or.inr rfl) xcal_nil ?_ ?_
  · rintro av σ ⟨rfl, hpre⟩
    exact Nat.le_of_ble_eq_true rfl
  rintro av σ ⟨rfl, hp1⟩ Rt hR
  refine xgo0 8 ?_
  simp (config := {maxSteps := 2000000}) only [xwp_2, xwp_0, xwp_1, xws_s, xdd_o, xld_0, xld_s, xs1_0, xs1_1, xs1_s, xs2_0, xs2_1, xs2_s, xlg_n, xlg_i, xlg_r, xlg_z, xlg_l, xf4_0, xf4_1, xf4_2, xf4_3, xgo_e, xcmp_eq, xcmp_ne, xcmp_lt, xcmp_ge, xcmp_gt, xcmp_le, xfg_0, xfg_1, xfg_2, xfg_3, xfg_4, xpop_0, xpop_s, xsw_n, xsw_c, xtb_n, xtb_c, xenp_n, xenp_i, xenp_r, xenp_z, xenp_l, xrep_0, xrep_s, Nat.reduceSub, true_and, and_true, cat_i, cat_r, Nat.reduceAdd, Nat.reduceLT, Nat.reduceLeDiff, Nat.reduceEqDiff, xnc, Int.reduceAdd, Int.reduceSub, Int.reduceNeg, Int.reduceLE, Int.reduceLT, Int.reduceToNat, ↓reduceIte, List.length_cons, List.length_nil, xlc0, xlc1, ite_10, i10, i01, i0_2, i0_3, i0_4, i0_6, i0_7, i0_8, i0_49, i0_10, or_true, true_or, or_false, false_or, not_false_eq_true, not_true_eq_false, xnt, xI_g, eq_self, xI_2, xJ_1, false_and, and_false, obT_t, obS_t, ob6_t, ob2_t, ob0_t, kT1_t, kT2_t, kT3_t, kT4_t, lT1, lT2, rT6, rT7, rT8, rT9, rT1i, rT2i, rS2, kSe_t, lSe, r0_0, r0_1, r0_2, r0_3, r0_4, r0_5, r0_6, r0_7, r0_8, r0_9, r1_i, r2_4, r2_5, r4_4, a1_t, a3_t, a5_t, a6_t, a7_t, a8_t, l1, l3, l5, l6, l7, l8, T1, T2, T3, T4, nI8, nI6, nI160, nI20, nI401, nI49, ob5_t, ob1_t, vp_tn, tn_def, lgc, dX2_noSuchNumber_0, st_aload_n, dX2_noSuchNumber_1, dX2_noSuchNumber_2, st_getfield, fl_X2_22, dX2_noSuchNumber_5, st_putfield, fl_X2_9, dX2_noSuchNumber_8, st_iconst, dX2_noSuchNumber_9, st_ireturn, ofI_m1, hp1]
  try simp only [hR, fX2_noSuchNumber_e, Option.some.injEq, Value.int.injEq, Value.long.injEq, Value.ref.injEq, and_true, true_and]
  all_goals grind
theorem rX2_noSuchNumber : ∀ as σ, pX2_noSuchNumber as σ → ∃ K as', as = .ref K :: as' ∧ xob WX K 2 := by
  rintro as σ ⟨rfl, hpre⟩
  exact ⟨_, _, rfl, by first | exact hpre | exact hpre.1 | exact obT hpre | exact obT hpre.1 | exact obS hpre | exact obS hpre.1 | exact obM | exact ob6 | exact ob2 | exact ob0⟩
def rn1 (σ : xS) : xS := xI (rsS σ 32) 2 3 ((rsS σ 32).1 2 0)
def rn2 (σ : xS) : xS := xI (rn1 σ) 2 0 ((rsS σ 32).1 2 0 + 1)
def rn3 (σ : xS) : xS := if dgV (rn2 σ) = -1 then rn2 σ else xI (rn2 σ) 2 0 ((rsS σ 32).1 2 0 + 1 + 1)
def rnN (σ : xS) : Int32 := if dgV (rn2 σ) = -1 then dgV (rn1 σ) else dgV (rn1 σ) * 10 + dgV (rn2 σ)
def rnV (σ : xS) (a b : Int32) : Int32 := if rsV σ 32 = 0 then -1 else if dgV (rn1 σ) = -1 then -1 else if a ≤ rnN σ ∧ rnN σ ≤ b then rnN σ else -1
def rnS (σ : xS) (a b : Int32) : xS := if rsV σ 32 = 0 then rsS σ 32 else if dgV (rn1 σ) = -1 then rn1 σ else if a ≤ rnN σ ∧ rnN σ ≤ b then rn3 σ else xI (rn3 σ) 2 0 ((rsS σ 32).1 2 0)
def pX2_readNumber (as : List Value) (σ : xS) : Prop := ∃ (a : Int32) (b : Int32), as = [.ref 2, .int a, .int b] ∧ (True)
def fX2_readNumber (as : List Value) (σ : xS) : Option Value × xS := match as with
  | [.ref 2, .int a, .int b] => (some (.int (rnV σ a b)), rnS σ a b)
  | _ => (none, σ)
theorem pX2_readNumber_e {a : Int32} {b : Int32} {σ : xS} : pX2_readNumber [.ref 2, .int a, .int b] σ = (True) := propext ⟨fun h => by obtain ⟨a, b, e, h⟩ := h; cases e; exact h, fun h => ⟨a, b, rfl, h⟩⟩
theorem fX2_readNumber_e {a : Int32} {b : Int32} {σ : xS} : fX2_readNumber [.ref 2, .int a, .int b] σ = (some (.int (rnV σ a b)), rnS σ a b) := rfl
def calX2_readNumber : List (Nat × xCall) := [(71, (false, 2, pX2_readSign, fX2_readSign)), (117, (false, 1, pX2_digitHere, fX2_digitHere)), (120, (false, 1, pX2_noSuchNumber, fX2_noSuchNumber))]
theorem c_X2_readNumber_71 : xlk calX2_readNumber 71 = some (false, 2, pX2_readSign, fX2_readSign) := rfl
theorem c_X2_readNumber_117 : xlk calX2_readNumber 117 = some (false, 1, pX2_digitHere, fX2_digitHere) := rfl
theorem c_X2_readNumber_120 : xlk calX2_readNumber 120 = some (false, 1, pX2_noSuchNumber, fX2_noSuchNumber) := rfl
set_option maxHeartbeats 4000000 in
set_option maxRecDepth 100000 in
theorem mX2_readNumber : xMet WX yX2_readNumber cX2_readNumber 5 (some .int) 3 pX2_readNumber fX2_readNumber := by
  refine xMet_of (fld := xlk fldX2) (cal := xlk calX2_readNumber) (ks := xlk []) (gs := xlk []) (ro := fun _ => none) 0 (by decide) WX_nd rfl fldX2_ok xKs_nil xGs_nil (Or.inr rfl) (xcal_cons (xCk_V mX2_readSign 2 (by decide) (by decide) (by decide) rfl (fun as σ h _ => rX2_readSign as σ h) w_X2_71 ⟨by decide, by decide, by decide +kernel⟩) (xcal_cons (xCk_V mX2_digitHere 2 (by decide) (by decide) (by decide) rfl (fun as σ h _ => rX2_digitHere as σ h) w_X2_117 ⟨by decide, by decide, by decide +kernel⟩) (xcal_cons (xCk_V mX2_noSuchNumber 2 (by decide) (by decide) (by decide) rfl (fun as σ h _ => rX2_noSuchNumber as σ h) w_X2_120 ⟨by decide, by decide, by decide +kernel⟩) xcal_nil))) ?_ ?_
  · rintro av σ ⟨a, b, rfl, hpre⟩
    exact Nat.le_of_ble_eq_true rfl
  rintro av σ ⟨a, b, rfl, hp1⟩ Rt hR
  refine xgo0 55 ?_
  simp (config := {maxSteps := 2000000}) only [xwp_2, xwp_0, xwp_1, xws_s, xdd_o, xld_0, xld_s, xs1_0, xs1_1, xs1_s, xs2_0, xs2_1, xs2_s, xlg_n, xlg_i, xlg_r, xlg_z, xlg_l, xf4_0, xf4_1, xf4_2, xf4_3, xgo_e, xcmp_eq, xcmp_ne, xcmp_lt, xcmp_ge, xcmp_gt, xcmp_le, xfg_0, xfg_1, xfg_2, xfg_3, xfg_4, xpop_0, xpop_s, xsw_n, xsw_c, xtb_n, xtb_c, xenp_n, xenp_i, xenp_r, xenp_z, xenp_l, xrep_0, xrep_s, Nat.reduceSub, true_and, and_true, cat_i, cat_r, Nat.reduceAdd, Nat.reduceLT, Nat.reduceLeDiff, Nat.reduceEqDiff, xnc, Int.reduceAdd, Int.reduceSub, Int.reduceNeg, Int.reduceLE, Int.reduceLT, Int.reduceToNat, ↓reduceIte, List.length_cons, List.length_nil, xlc0, xlc1, ite_10, i10, i01, i0_2, i0_3, i0_4, i0_6, i0_7, i0_8, i0_49, i0_10, or_true, true_or, or_false, false_or, not_false_eq_true, not_true_eq_false, xnt, xI_g, eq_self, xI_2, xJ_1, false_and, and_false, obT_t, obS_t, ob6_t, ob2_t, ob0_t, kT1_t, kT2_t, kT3_t, kT4_t, lT1, lT2, rT6, rT7, rT8, rT9, rT1i, rT2i, rS2, kSe_t, lSe, r0_0, r0_1, r0_2, r0_3, r0_4, r0_5, r0_6, r0_7, r0_8, r0_9, r1_i, r2_4, r2_5, r4_4, a1_t, a3_t, a5_t, a6_t, a7_t, a8_t, l1, l3, l5, l6, l7, l8, T1, T2, T3, T4, nI8, nI6, nI160, nI20, nI401, nI49, ob5_t, ob1_t, vp_tn, tn_def, lgc, dX2_readNumber_0, st_aload_n, dX2_readNumber_1, st_bipush, dX2_readNumber_3, st_invokevirtual, dX2_readNumber_6, st_ifCond, dX2_readNumber_9, st_iconst, dX2_readNumber_10, st_ireturn, dX2_readNumber_11, dX2_readNumber_12, dX2_readNumber_13, st_getfield, fl_X2_9, dX2_readNumber_16, st_putfield, fl_X2_22, dX2_readNumber_19, dX2_readNumber_20, dX2_readNumber_23, st_istore_n, dX2_readNumber_24, st_iload_n, dX2_readNumber_25, dX2_readNumber_26, st_if_icmp, dX2_readNumber_29, dX2_readNumber_30, dX2_readNumber_31, dX2_readNumber_32, st_dup, dX2_readNumber_33, dX2_readNumber_36, dX2_readNumber_37, st_iadd, dX2_readNumber_38, dX2_readNumber_41, dX2_readNumber_42, dX2_readNumber_45, st_istore, dX2_readNumber_47, st_iload, dX2_readNumber_49, dX2_readNumber_50, dX2_readNumber_53, dX2_readNumber_54, dX2_readNumber_56, st_imul, dX2_readNumber_57, dX2_readNumber_59, dX2_readNumber_60, dX2_readNumber_61, dX2_readNumber_62, dX2_readNumber_63, dX2_readNumber_66, dX2_readNumber_67, dX2_readNumber_68, dX2_readNumber_71, dX2_readNumber_72, dX2_readNumber_73, dX2_readNumber_76, dX2_readNumber_77, dX2_readNumber_78, dX2_readNumber_81, dX2_readNumber_82, st_goto, dX2_readNumber_85, dX2_readNumber_86, dX2_readNumber_89, c_X2_readNumber_71, pX2_readSign_e, fX2_readSign_e, Option.toList_some, Option.toList_none, List.cons_append, List.nil_append, c_X2_readNumber_117, pX2_digitHere_e, fX2_digitHere_e, c_X2_readNumber_120, pX2_noSuchNumber_e, fX2_noSuchNumber_e, ofI_32, ofI_m1, ofI_1, ofI_10, hp1]
  simp only [hR, fX2_readNumber_e]
  rw [show xI (rsS σ 32) 2 3 ((rsS σ 32).1 2 0) = rn1 σ from rfl, show xI (rn1 σ) 2 0 ((rsS σ 32).1 2 0 + 1) = rn2 σ from rfl]
  unfold rnV rnS rnN rn3
  grind
theorem rX2_readNumber : ∀ as σ, pX2_readNumber as σ → ∃ K as', as = .ref K :: as' ∧ xob WX K 2 := by
  rintro as σ ⟨a, b, rfl, hpre⟩
  exact ⟨_, _, rfl, by first | exact hpre | exact hpre.1 | exact obT hpre | exact obT hpre.1 | exact obS hpre | exact obS hpre.1 | exact obM | exact ob6 | exact ob2 | exact ob0⟩
def stV (σ : xS) : Int32 := if ltH σ = 102 then 0 else if ltH σ = 108 then 1 else if ltH σ = 114 then 2 else if ltH σ = 115 then 3 else -1
def pX2_stepHere (as : List Value) (σ : xS) : Prop := as = [.ref 2] ∧ (True)
def fX2_stepHere (as : List Value) (σ : xS) : Option Value × xS := match as with
  | [.ref 2] => (some (.int (stV σ)), σ)
  | _ => (none, σ)
theorem pX2_stepHere_e {σ : xS} : pX2_stepHere [.ref 2] σ = (True) := propext ⟨fun h => h.2, fun h => ⟨rfl, h⟩⟩
theorem fX2_stepHere_e  {σ : xS} : fX2_stepHere [.ref 2] σ = (some (.int (stV σ)), σ) := rfl
def calX2_stepHere : List (Nat × xCall) := [(110, (false, 2, pX2_letterAt, fX2_letterAt))]
theorem c_X2_stepHere_110 : xlk calX2_stepHere 110 = some (false, 2, pX2_letterAt, fX2_letterAt) := rfl
set_option maxHeartbeats 4000000 in
set_option maxRecDepth 100000 in
theorem mX2_stepHere : xMet WX yX2_stepHere cX2_stepHere 1 (some .int) 2 pX2_stepHere fX2_stepHere := by
  refine xMet_of (fld := xlk fldX2) (cal := xlk calX2_stepHere) (ks := xlk []) (gs := xlk []) (ro := fun _ => none) 0 (by decide) WX_nd rfl fldX2_ok xKs_nil xGs_nil (Or.inr rfl) (xcal_cons (xCk_V mX2_letterAt 2 (by decide) (by decide) (by decide) rfl (fun as σ h _ => rX2_letterAt as σ h) w_X2_110 ⟨by decide, by decide, by decide +kernel⟩) xcal_nil) ?_ ?_
  · rintro av σ ⟨rfl, hpre⟩
    exact Nat.le_of_ble_eq_true rfl
  rintro av σ ⟨rfl, hp1⟩ Rt hR
  refine xgo0 17 ?_
  simp (config := {maxSteps := 2000000}) only [xwp_2, xwp_0, xwp_1, xws_s, xdd_o, xld_0, xld_s, xs1_0, xs1_1, xs1_s, xs2_0, xs2_1, xs2_s, xlg_n, xlg_i, xlg_r, xlg_z, xlg_l, xf4_0, xf4_1, xf4_2, xf4_3, xgo_e, xcmp_eq, xcmp_ne, xcmp_lt, xcmp_ge, xcmp_gt, xcmp_le, xfg_0, xfg_1, xfg_2, xfg_3, xfg_4, xpop_0, xpop_s, xsw_n, xsw_c, xtb_n, xtb_c, xenp_n, xenp_i, xenp_r, xenp_z, xenp_l, xrep_0, xrep_s, Nat.reduceSub, true_and, and_true, cat_i, cat_r, Nat.reduceAdd, Nat.reduceLT, Nat.reduceLeDiff, Nat.reduceEqDiff, xnc, Int.reduceAdd, Int.reduceSub, Int.reduceNeg, Int.reduceLE, Int.reduceLT, Int.reduceToNat, ↓reduceIte, List.length_cons, List.length_nil, xlc0, xlc1, ite_10, i10, i01, i0_2, i0_3, i0_4, i0_6, i0_7, i0_8, i0_49, i0_10, or_true, true_or, or_false, false_or, not_false_eq_true, not_true_eq_false, xnt, xI_g, eq_self, xI_2, xJ_1, false_and, and_false, obT_t, obS_t, ob6_t, ob2_t, ob0_t, kT1_t, kT2_t, kT3_t, kT4_t, lT1, lT2, rT6, rT7, rT8, rT9, rT1i, rT2i, rS2, kSe_t, lSe, r0_0, r0_1, r0_2, r0_3, r0_4, r0_5, r0_6, r0_7, r0_8, r0_9, r1_i, r2_4, r2_5, r4_4, a1_t, a3_t, a5_t, a6_t, a7_t, a8_t, l1, l3, l5, l6, l7, l8, T1, T2, T3, T4, nI8, nI6, nI160, nI20, nI401, nI49, ob5_t, ob1_t, vp_tn, tn_def, lgc, dX2_stepHere_0, st_aload_n, dX2_stepHere_1, dX2_stepHere_2, st_getfield, fl_X2_9, dX2_stepHere_5, st_invokevirtual, dX2_stepHere_8, st_lookupswitch, dX2_stepHere_52, st_iconst, dX2_stepHere_53, st_ireturn, dX2_stepHere_54, dX2_stepHere_55, dX2_stepHere_56, dX2_stepHere_57, dX2_stepHere_58, dX2_stepHere_59, dX2_stepHere_60, dX2_stepHere_61, c_X2_stepHere_110, pX2_letterAt_e, fX2_letterAt_e, Option.toList_some, Option.toList_none, List.cons_append, List.nil_append, ofI_m2, ofI_m1, ofI_0, ofI_1, ofI_2, ofI_3, ofI_4, ofI_5, ofI_6, ofI_7, ofI_8, ofI_9, ofI_10, ofI_11, xsrt, hp1]
  simp only [hR, fX2_stepHere_e, stV, ltH]
  grind
theorem rX2_stepHere : ∀ as σ, pX2_stepHere as σ → ∃ K as', as = .ref K :: as' ∧ xob WX K 2 := by
  rintro as σ ⟨rfl, hpre⟩
  exact ⟨_, _, rfl, by first | exact hpre | exact hpre.1 | exact obT hpre | exact obT hpre.1 | exact obS hpre | exact obS hpre.1 | exact obM | exact ob6 | exact ob2 | exact ob0⟩
def wdK (x : Int32) : Nat := if x = 0 then 910 else if x = 1 then 911 else if x = 2 then 912 else if x = 3 then 913 else 914
theorem wdK_r {x : Int32} : 910 ≤ wdK x ∧ wdK x < 915 := by unfold wdK; grind
def pX2_wordBy (as : List Value) (σ : xS) : Prop := ∃ (x : Int32), as = [.int x] ∧ (True)
def fX2_wordBy (as : List Value) (σ : xS) : Option Value × xS := match as with
  | [.int x] => (some (.ref (wdK x)), σ)
  | _ => (none, σ)
theorem pX2_wordBy_e {x : Int32} {σ : xS} : pX2_wordBy [.int x] σ = (True) := propext ⟨fun h => by obtain ⟨x, e, h⟩ := h; cases e; exact h, fun h => ⟨x, rfl, h⟩⟩
theorem fX2_wordBy_e {x : Int32} {σ : xS} : fX2_wordBy [.int x] σ = (some (.ref (wdK x)), σ) := rfl
def calX2_wordBy : List (Nat × xCall) := []
set_option maxHeartbeats 4000000 in
set_option maxRecDepth 100000 in
theorem mX2_wordBy : xMet WX yX2_wordBy cX2_wordBy 1 (some (.object "java/lang/String")) 1 pX2_wordBy fX2_wordBy := by
  refine xMet_of (fld := xlk fldX2) (cal := xlk calX2_wordBy) (ks := xlk ksX2) (gs := xlk []) (ro := fun _ => none) 3 (by decide) WX_nd ⟨_, rfl⟩ fldX2_ok ksX2_ok xGs_nil (Or.inr rfl) xcal_nil ?_ ?_
  · rintro av σ ⟨x, rfl, hpre⟩
    exact Nat.le_of_ble_eq_true rfl
  rintro av σ ⟨x, rfl, hp1⟩ Rt hR
  refine xgo0 14 ?_
  simp (config := {maxSteps := 2000000}) only [xwp_2, xwp_0, xwp_1, xws_s, xdd_o, xld_0, xld_s, xs1_0, xs1_1, xs1_s, xs2_0, xs2_1, xs2_s, xlg_n, xlg_i, xlg_r, xlg_z, xlg_l, xf4_0, xf4_1, xf4_2, xf4_3, xgo_e, xcmp_eq, xcmp_ne, xcmp_lt, xcmp_ge, xcmp_gt, xcmp_le, xfg_0, xfg_1, xfg_2, xfg_3, xfg_4, xpop_0, xpop_s, xsw_n, xsw_c, xtb_n, xtb_c, xenp_n, xenp_i, xenp_r, xenp_z, xenp_l, xrep_0, xrep_s, Nat.reduceSub, true_and, and_true, cat_i, cat_r, Nat.reduceAdd, Nat.reduceLT, Nat.reduceLeDiff, Nat.reduceEqDiff, xnc, Int.reduceAdd, Int.reduceSub, Int.reduceNeg, Int.reduceLE, Int.reduceLT, Int.reduceToNat, ↓reduceIte, List.length_cons, List.length_nil, xlc0, xlc1, ite_10, i10, i01, i0_2, i0_3, i0_4, i0_6, i0_7, i0_8, i0_49, i0_10, or_true, true_or, or_false, false_or, not_false_eq_true, not_true_eq_false, xnt, xI_g, eq_self, xI_2, xJ_1, false_and, and_false, obT_t, obS_t, ob6_t, ob2_t, ob0_t, kT1_t, kT2_t, kT3_t, kT4_t, lT1, lT2, rT6, rT7, rT8, rT9, rT1i, rT2i, rS2, kSe_t, lSe, r0_0, r0_1, r0_2, r0_3, r0_4, r0_5, r0_6, r0_7, r0_8, r0_9, r1_i, r2_4, r2_5, r4_4, a1_t, a3_t, a5_t, a6_t, a7_t, a8_t, l1, l3, l5, l6, l7, l8, T1, T2, T3, T4, nI8, nI6, nI160, nI20, nI401, nI49, ob5_t, ob1_t, vp_tn, tn_def, lgc, dX2_wordBy_0, st_iload_n, dX2_wordBy_1, st_tableswitch, dX2_wordBy_32, st_ldc, ks_X2_81, dX2_wordBy_34, st_areturn, dX2_wordBy_35, ks_X2_83, dX2_wordBy_37, dX2_wordBy_38, ks_X2_85, dX2_wordBy_40, dX2_wordBy_41, ks_X2_87, dX2_wordBy_43, dX2_wordBy_44, ks_X2_89, dX2_wordBy_46, ofI_m2, ofI_m1, ofI_0, ofI_1, ofI_2, ofI_3, ofI_4, ofI_5, ofI_6, ofI_7, ofI_8, ofI_9, ofI_10, ofI_11, hp1]
  simp only [hR, fX2_wordBy_e, wdK]
  grind
def pX2_hasNoRoomFor (as : List Value) (σ : xS) : Prop := ∃ (x : Int32), as = [.ref 2, .int x] ∧ (True)
def fX2_hasNoRoomFor (as : List Value) (σ : xS) : Option Value × xS := match as with
  | [.ref 2, .int x] => (some (.int (if (x = 0 ∧ ¬ σ.1 400 1 < 8) ∨ (x = 3 ∧ ¬ σ.1 400 2 < 6) then 1 else 0)), σ)
  | _ => (none, σ)
theorem pX2_hasNoRoomFor_e {x : Int32} {σ : xS} : pX2_hasNoRoomFor [.ref 2, .int x] σ = (True) := propext ⟨fun h => by obtain ⟨x, e, h⟩ := h; cases e; exact h, fun h => ⟨x, rfl, h⟩⟩
theorem fX2_hasNoRoomFor_e {x : Int32} {σ : xS} : fX2_hasNoRoomFor [.ref 2, .int x] σ = (some (.int (if (x = 0 ∧ ¬ σ.1 400 1 < 8) ∨ (x = 3 ∧ ¬ σ.1 400 2 < 6) then 1 else 0)), σ) := rfl
def calX2_hasNoRoomFor : List (Nat × xCall) := [(75, (false, 1, pX4_hasRoomForGait, fX4_hasRoomForGait)), (78, (false, 1, pX4_hasRoomForWalker, fX4_hasRoomForWalker))]
theorem c_X2_hasNoRoomFor_75 : xlk calX2_hasNoRoomFor 75 = some (false, 1, pX4_hasRoomForGait, fX4_hasRoomForGait) := rfl
theorem c_X2_hasNoRoomFor_78 : xlk calX2_hasNoRoomFor 78 = some (false, 1, pX4_hasRoomForWalker, fX4_hasRoomForWalker) := rfl
set_option maxHeartbeats 4000000 in
set_option maxRecDepth 100000 in
theorem mX2_hasNoRoomFor : xMet WX yX2_hasNoRoomFor cX2_hasNoRoomFor 2 (some .boolean) 3 pX2_hasNoRoomFor fX2_hasNoRoomFor := by
  refine xMet_of (fld := xlk fldX2) (cal := xlk calX2_hasNoRoomFor) (ks := xlk []) (gs := xlk []) (ro := fun _ => none) 1 (by decide) WX_nd rfl fldX2_ok xKs_nil xGs_nil (Or.inr rfl) (xcal_cons (xCk_V mX4_hasRoomForGait 4 (by decide) (by decide) (by decide) rfl (fun as σ h _ => rX4_hasRoomForGait as σ h) w_X2_75 ⟨by decide, by decide, by decide +kernel⟩) (xcal_cons (xCk_V mX4_hasRoomForWalker 4 (by decide) (by decide) (by decide) rfl (fun as σ h _ => rX4_hasRoomForWalker as σ h) w_X2_78 ⟨by decide, by decide, by decide +kernel⟩) xcal_nil)) ?_ ?_
  · rintro av σ ⟨x, rfl, hpre⟩
    exact Nat.le_of_ble_eq_true rfl
  rintro av σ ⟨x, rfl, hp1⟩ Rt hR
  refine xgo0 19 ?_
  simp (config := {maxSteps := 2000000}) only [xwp_2, xwp_0, xwp_1, xws_s, xdd_o, xld_0, xld_s, xs1_0, xs1_1, xs1_s, xs2_0, xs2_1, xs2_s, xlg_n, xlg_i, xlg_r, xlg_z, xlg_l, xf4_0, xf4_1, xf4_2, xf4_3, xgo_e, xcmp_eq, xcmp_ne, xcmp_lt, xcmp_ge, xcmp_gt, xcmp_le, xfg_0, xfg_1, xfg_2, xfg_3, xfg_4, xpop_0, xpop_s, xsw_n, xsw_c, xtb_n, xtb_c, xenp_n, xenp_i, xenp_r, xenp_z, xenp_l, xrep_0, xrep_s, Nat.reduceSub, true_and, and_true, cat_i, cat_r, Nat.reduceAdd, Nat.reduceLT, Nat.reduceLeDiff, Nat.reduceEqDiff, xnc, Int.reduceAdd, Int.reduceSub, Int.reduceNeg, Int.reduceLE, Int.reduceLT, Int.reduceToNat, ↓reduceIte, List.length_cons, List.length_nil, xlc0, xlc1, ite_10, i10, i01, i0_2, i0_3, i0_4, i0_6, i0_7, i0_8, i0_49, i0_10, or_true, true_or, or_false, false_or, not_false_eq_true, not_true_eq_false, xnt, xI_g, eq_self, xI_2, xJ_1, false_and, and_false, obT_t, obS_t, ob6_t, ob2_t, ob0_t, kT1_t, kT2_t, kT3_t, kT4_t, lT1, lT2, rT6, rT7, rT8, rT9, rT1i, rT2i, rS2, kSe_t, lSe, r0_0, r0_1, r0_2, r0_3, r0_4, r0_5, r0_6, r0_7, r0_8, r0_9, r1_i, r2_4, r2_5, r4_4, a1_t, a3_t, a5_t, a6_t, a7_t, a8_t, l1, l3, l5, l6, l7, l8, T1, T2, T3, T4, nI8, nI6, nI160, nI20, nI401, nI49, ob5_t, ob1_t, vp_tn, tn_def, lgc, dX2_hasNoRoomFor_0, st_iload_n, dX2_hasNoRoomFor_1, st_ifCond, dX2_hasNoRoomFor_4, st_aload_n, dX2_hasNoRoomFor_5, st_getfield, fl_X2_32, dX2_hasNoRoomFor_8, st_invokevirtual, dX2_hasNoRoomFor_11, dX2_hasNoRoomFor_14, dX2_hasNoRoomFor_15, st_iconst, dX2_hasNoRoomFor_16, st_if_icmp, dX2_hasNoRoomFor_19, dX2_hasNoRoomFor_20, dX2_hasNoRoomFor_23, dX2_hasNoRoomFor_26, dX2_hasNoRoomFor_29, dX2_hasNoRoomFor_30, st_goto, dX2_hasNoRoomFor_33, dX2_hasNoRoomFor_34, st_ireturn, c_X2_hasNoRoomFor_75, pX4_hasRoomForGait_e, fX4_hasRoomForGait_e, Option.toList_some, Option.toList_none, List.cons_append, List.nil_append, c_X2_hasNoRoomFor_78, pX4_hasRoomForWalker_e, fX4_hasRoomForWalker_e, ofI_3, ofI_1, ofI_0, hp1]
  simp only [hR, fX2_hasNoRoomFor_e, T4]
  grind
theorem rX2_hasNoRoomFor : ∀ as σ, pX2_hasNoRoomFor as σ → ∃ K as', as = .ref K :: as' ∧ xob WX K 2 := by
  rintro as σ ⟨x, rfl, hpre⟩
  exact ⟨_, _, rfl, by first | exact hpre | exact hpre.1 | exact obT hpre | exact obT hpre.1 | exact obS hpre | exact obS hpre.1 | exact obM | exact ob6 | exact ob2 | exact ob0⟩
