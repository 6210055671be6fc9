/-! a beat, as the class does it -/
def ptw (p d : Int32) : Int32 := if d = 0 then (if 7 ≤ p then p - 7 else -1) else if d = 1 then (if xrem p 7 < 6 then p + 1 else -1) else if d = 2 then (if p < 42 then p + 7 else -1) else (if 0 < xrem p 7 then p - 1 else -1)
def qrt (aw t : Int32) : Int32 := if t = 3 then 0 else if (if t = 0 then aw else t - 1) = 0 then 3 else if t = 0 then aw else t - 1
def trn (way turned q : Int32) : Int32 := xrem (way + (if turned = 1 then 4 - q else q)) 4
def stp (σ : xS) (B K : Nat) : Int32 := xshr (σ.1 (gaiK B (σ.1 K 3)) 2) (2 * σ.1 K 4) &&& 3
def tgt (σ : xS) (B K : Nat) : Int32 := if stp σ B K = 0 then ptw (σ.1 K 1) (σ.1 K 2) else -1
def stepX (σ : xS) (B K : Nat) : xS := xI (if ¬ tgt σ B K = -1 ∧ ¬ xlushr (σ.2 B 0) (tgt σ B K) &&& 1 = 1 then xI σ K 1 (tgt σ B K) else xI σ K 2 (trn (σ.1 K 2) (σ.1 K 5) (qrt (σ.1 (gaiK B (σ.1 K 3)) 1) (stp σ B K)))) K 4 (if σ.1 K 4 + 1 < σ.1 (gaiK B (σ.1 K 3)) 0 then σ.1 K 4 + 1 else 0)
def remX (σ : xS) (K : Nat) : xS := xI (xI (xI (xI σ K 8 (σ.1 K 3)) K 9 (σ.1 K 4)) K 10 (σ.1 K 2)) K 11 (σ.1 K 5)
def pX4_placeThatWay (as : List Value) (σ : xS) : Prop := ∃ (p : Int32) (d : Int32), as = [.int p, .int d] ∧ (True)
def fX4_placeThatWay (as : List Value) (σ : xS) : Option Value × xS := match as with
  | [.int p, .int d] => (some (.int (ptw p d)), σ)
  | _ => (none, σ)
theorem pX4_placeThatWay_e {p : Int32} {d : Int32} {σ : xS} : pX4_placeThatWay [.int p, .int d] σ = (True) := propext ⟨fun h => by obtain ⟨p, d, e, h⟩ := h; cases e; exact h, fun h => ⟨p, d, rfl, h⟩⟩
theorem fX4_placeThatWay_e {p : Int32} {d : Int32} {σ : xS} : fX4_placeThatWay [.int p, .int d] σ = (some (.int (ptw p d)), σ) := rfl
def calX4_placeThatWay : List (Nat × xCall) := []
set_option maxHeartbeats 4000000 in
set_option maxRecDepth 100000 in
theorem mX4_placeThatWay : xMet WX yX4_placeThatWay cX4_placeThatWay 3 (some .int) 1 pX4_placeThatWay fX4_placeThatWay := by
  refine xMet_of (fld := xlk fldX4) (cal := xlk calX4_placeThatWay) (ks := xlk []) (gs := xlk []) (ro := fun _ => none) 0 (by decide) WX_nd rfl fldX4_ok xKs_nil xGs_nil (Or.inr rfl) xcal_nil ?_ ?_
  · rintro av σ ⟨p, d, rfl, hpre⟩
    exact Nat.le_of_ble_eq_true rfl
  rintro av σ ⟨p, d, rfl, hp1⟩ Rt hR
  refine xgo0 43 ?_
  simp only [xwp_2, xwp_0, xwp_1, xws_s, xdd_o, xld_0, xld_s, xs1_0, xs1_1, xs1_s, xs2_0, xs2_1, xs2_s, xlg_n, xlg_i, xlg_r, xlg_z, xlg_l, xf4_0, xf4_1, xf4_2, xf4_3, xgo_e, xcmp_eq, xcmp_ne, xcmp_lt, xcmp_ge, xcmp_gt, xcmp_le, xfg_0, xfg_1, xfg_2, xfg_3, xfg_4, xpop_0, xpop_s, xsw_n, xsw_c, xtb_n, xtb_c, xenp_n, xenp_i, xenp_r, xenp_z, xenp_l, xrep_0, xrep_s, Nat.reduceSub, true_and, and_true, cat_i, cat_r, Nat.reduceAdd, Nat.reduceLT, Nat.reduceLeDiff, Nat.reduceEqDiff, xnc, Int.reduceAdd, Int.reduceSub, Int.reduceNeg, Int.reduceLE, Int.reduceLT, Int.reduceToNat, ↓reduceIte, List.length_cons, List.length_nil, xlc0, xlc1, ite_10, i10, i01, i0_2, i0_3, i0_4, i0_6, i0_7, i0_8, i0_49, i0_10, or_true, true_or, or_false, false_or, not_false_eq_true, not_true_eq_false, xnt, xI_g, eq_self, xI_2, xJ_1, false_and, and_false, obT_t, obS_t, ob6_t, ob2_t, ob0_t, kT1_t, kT2_t, kT3_t, kT4_t, lT1, lT2, rT6, rT7, rT8, rT9, rT1i, rT2i, rS2, kSe_t, lSe, r0_0, r0_1, r0_2, r0_3, r0_4, r0_5, r0_6, r0_7, r0_8, r0_9, r1_i, r2_4, r2_5, r4_4, a1_t, a3_t, a5_t, a6_t, a7_t, a8_t, l1, l3, l5, l6, l7, l8, T1, T2, T3, T4, nI8, nI6, nI160, nI20, nI401, nI49, ob5_t, ob1_t, vp_tn, tn_def, lgc, dX4_placeThatWay_0, st_iload_n, dX4_placeThatWay_1, st_bipush, dX4_placeThatWay_3, st_irem, dX4_placeThatWay_4, st_istore_n, dX4_placeThatWay_5, dX4_placeThatWay_6, st_tableswitch, dX4_placeThatWay_32, dX4_placeThatWay_33, dX4_placeThatWay_35, st_if_icmp, dX4_placeThatWay_38, dX4_placeThatWay_39, dX4_placeThatWay_41, st_isub, dX4_placeThatWay_42, st_goto, dX4_placeThatWay_45, st_iconst, dX4_placeThatWay_46, st_ireturn, dX4_placeThatWay_47, dX4_placeThatWay_48, dX4_placeThatWay_50, dX4_placeThatWay_53, dX4_placeThatWay_54, dX4_placeThatWay_55, st_iadd, dX4_placeThatWay_56, dX4_placeThatWay_59, dX4_placeThatWay_60, dX4_placeThatWay_61, dX4_placeThatWay_62, dX4_placeThatWay_64, dX4_placeThatWay_67, dX4_placeThatWay_68, dX4_placeThatWay_70, dX4_placeThatWay_71, dX4_placeThatWay_74, dX4_placeThatWay_75, dX4_placeThatWay_76, dX4_placeThatWay_77, st_ifCond, dX4_placeThatWay_80, dX4_placeThatWay_81, dX4_placeThatWay_82, dX4_placeThatWay_83, dX4_placeThatWay_86, dX4_placeThatWay_87, ofI_7, ofI_m2, ofI_m1, ofI_0, ofI_1, ofI_2, ofI_3, ofI_4, ofI_5, ofI_6, ofI_8, ofI_9, ofI_10, ofI_11, ofI_42, hp1]
  simp only [hR, fX4_placeThatWay_e, ptw, Option.some.injEq, Value.int.injEq, and_true, true_and]
  all_goals grind
def pX4_doStep (as : List Value) (σ : xS) : Prop := ∃ (B : Nat) (K : Nat), as = [.ref B, .ref K] ∧ ((xTw B) ∧ (xob WX K 5))
def fX4_doStep (as : List Value) (σ : xS) : Option Value × xS := match as with
  | [.ref B, .ref K] => (none, stepX σ B K)
  | _ => (none, σ)
theorem pX4_doStep_e {B : Nat} {K : Nat} {σ : xS} : pX4_doStep [.ref B, .ref K] σ = ((xTw B) ∧ (xob WX K 5)) := propext ⟨fun h => by obtain ⟨B, K, e, h⟩ := h; cases e; exact h, fun h => ⟨B, K, rfl, h⟩⟩
theorem fX4_doStep_e {B : Nat} {K : Nat} {σ : xS} : fX4_doStep [.ref B, .ref K] σ = (none, stepX σ B K) := rfl
def calX4_doStep : List (Nat × xCall) := [(53, (false, 2, pX4_gaitBy, fX4_gaitBy)), (158, (false, 2, pX1_stepAt, fX1_stepAt)), (161, (true, 2, pX4_placeThatWay, fX4_placeThatWay)), (104, (false, 2, pX4_isWalled, fX4_isWalled)), (165, (false, 2, pX1_quartersOf, fX1_quartersOf)), (168, (false, 2, pX5_turn, fX5_turn)), (172, (false, 2, pX1_next, fX1_next))]
theorem c_X4_doStep_53 : xlk calX4_doStep 53 = some (false, 2, pX4_gaitBy, fX4_gaitBy) := rfl
theorem c_X4_doStep_158 : xlk calX4_doStep 158 = some (false, 2, pX1_stepAt, fX1_stepAt) := rfl
theorem c_X4_doStep_161 : xlk calX4_doStep 161 = some (true, 2, pX4_placeThatWay, fX4_placeThatWay) := rfl
theorem c_X4_doStep_104 : xlk calX4_doStep 104 = some (false, 2, pX4_isWalled, fX4_isWalled) := rfl
theorem c_X4_doStep_165 : xlk calX4_doStep 165 = some (false, 2, pX1_quartersOf, fX1_quartersOf) := rfl
theorem c_X4_doStep_168 : xlk calX4_doStep 168 = some (false, 2, pX5_turn, fX5_turn) := rfl
theorem c_X4_doStep_172 : xlk calX4_doStep 172 = some (false, 2, pX1_next, fX1_next) := rfl
set_option maxHeartbeats 4000000 in
set_option maxRecDepth 100000 in
theorem mX4_doStep : xMet WX yX4_doStep cX4_doStep 5 none 3 pX4_doStep fX4_doStep := by
  refine xMet_of (fld := xlk fldX4) (cal := xlk calX4_doStep) (ks := xlk []) (gs := xlk []) (ro := fun _ => none) 4 (by decide) WX_nd rfl fldX4_ok xKs_nil xGs_nil (Or.inr rfl) (xcal_cons (xCk_V mX4_gaitBy 4 (by decide) (by decide) (by decide) rfl (fun as σ h _ => rX4_gaitBy as σ h) w_X4_53 ⟨by decide, by decide, by decide +kernel⟩) (xcal_cons (xCk_V mX1_stepAt 1 (by decide) (by decide) (by decide) rfl (fun as σ h _ => rX1_stepAt as σ h) w_X4_158 ⟨by decide, by decide, by decide +kernel⟩) (xcal_cons (xCk_S mX4_placeThatWay (by decide) (by decide) w_X4_161 ⟨by decide, by decide, by decide +kernel⟩) (xcal_cons (xCk_V mX4_isWalled 4 (by decide) (by decide) (by decide) rfl (fun as σ h _ => rX4_isWalled as σ h) w_X4_104 ⟨by decide, by decide, by decide +kernel⟩) (xcal_cons (xCk_V mX1_quartersOf 1 (by decide) (by decide) (by decide) rfl (fun as σ h _ => rX1_quartersOf as σ h) w_X4_165 ⟨by decide, by decide, by decide +kernel⟩) (xcal_cons (xCk_V mX5_turn 5 (by decide) (by decide) (by decide) rfl (fun as σ h _ => rX5_turn as σ h) w_X4_168 ⟨by decide, by decide, by decide +kernel⟩) (xcal_cons (xCk_V mX1_next 1 (by decide) (by decide) (by decide) rfl (fun as σ h _ => rX1_next as σ h) w_X4_172 ⟨by decide, by decide, by decide +kernel⟩) xcal_nil))))))) ?_ ?_
  · rintro av σ ⟨B, K, rfl, hpre⟩
    exact Nat.le_of_ble_eq_true rfl
  rintro av σ ⟨B, K, rfl, ⟨hp1, hp2⟩⟩ Rt hR
  refine xgo0 45 ?_
  simp only [xwp_2, xwp_0, xwp_1, xws_s, xdd_o, xld_0, xld_s, xs1_0, xs1_1, xs1_s, xs2_0, xs2_1, xs2_s, xlg_n, xlg_i, xlg_r, xlg_z, xlg_l, xf4_0, xf4_1, xf4_2, xf4_3, xgo_e, xcmp_eq, xcmp_ne, xcmp_lt, xcmp_ge, xcmp_gt, xcmp_le, xfg_0, xfg_1, xfg_2, xfg_3, xfg_4, xpop_0, xpop_s, xsw_n, xsw_c, xtb_n, xtb_c, xenp_n, xenp_i, xenp_r, xenp_z, xenp_l, xrep_0, xrep_s, Nat.reduceSub, true_and, and_true, cat_i, cat_r, Nat.reduceAdd, Nat.reduceLT, Nat.reduceLeDiff, Nat.reduceEqDiff, xnc, Int.reduceAdd, Int.reduceSub, Int.reduceNeg, Int.reduceLE, Int.reduceLT, Int.reduceToNat, ↓reduceIte, List.length_cons, List.length_nil, xlc0, xlc1, ite_10, i10, i01, i0_2, i0_3, i0_4, i0_6, i0_7, i0_8, i0_49, i0_10, or_true, true_or, or_false, false_or, not_false_eq_true, not_true_eq_false, xnt, xI_g, eq_self, xI_2, xJ_1, false_and, and_false, obT_t, obS_t, ob6_t, ob2_t, ob0_t, kT1_t, kT2_t, kT3_t, kT4_t, lT1, lT2, rT6, rT7, rT8, rT9, rT1i, rT2i, rS2, kSe_t, lSe, r0_0, r0_1, r0_2, r0_3, r0_4, r0_5, r0_6, r0_7, r0_8, r0_9, r1_i, r2_4, r2_5, r4_4, a1_t, a3_t, a5_t, a6_t, a7_t, a8_t, l1, l3, l5, l6, l7, l8, T1, T2, T3, T4, nI8, nI6, nI160, nI20, nI401, nI49, ob5_t, ob1_t, vp_tn, tn_def, lgc, dX4_doStep_0, st_aload_n, dX4_doStep_1, dX4_doStep_2, st_getfield, fl_X4_90, dX4_doStep_5, st_invokevirtual, dX4_doStep_8, st_astore_n, dX4_doStep_9, dX4_doStep_10, dX4_doStep_11, fl_X4_93, dX4_doStep_14, dX4_doStep_17, st_istore_n, dX4_doStep_18, st_iload_n, dX4_doStep_19, st_ifCond, dX4_doStep_22, dX4_doStep_23, fl_X4_84, dX4_doStep_26, dX4_doStep_27, fl_X4_87, dX4_doStep_30, st_invokestatic, dX4_doStep_33, st_goto, dX4_doStep_36, st_iconst, dX4_doStep_37, st_istore, dX4_doStep_39, st_iload, dX4_doStep_41, dX4_doStep_42, st_if_icmp, dX4_doStep_45, dX4_doStep_46, dX4_doStep_48, dX4_doStep_51, dX4_doStep_54, dX4_doStep_55, dX4_doStep_57, st_putfield, dX4_doStep_60, dX4_doStep_63, dX4_doStep_64, dX4_doStep_65, dX4_doStep_66, dX4_doStep_69, dX4_doStep_72, dX4_doStep_73, dX4_doStep_74, dX4_doStep_75, dX4_doStep_78, dX4_doStep_81, dX4_doStep_84, st_return_, c_X4_doStep_53, pX4_gaitBy_e, fX4_gaitBy_e, Option.toList_some, Option.toList_none, List.cons_append, List.nil_append, c_X4_doStep_158, pX1_stepAt_e, fX1_stepAt_e, c_X4_doStep_161, pX4_placeThatWay_e, fX4_placeThatWay_e, c_X4_doStep_104, pX4_isWalled_e, fX4_isWalled_e, c_X4_doStep_165, pX1_quartersOf_e, fX1_quartersOf_e, c_X4_doStep_168, pX5_turn_e, fX5_turn_e, c_X4_doStep_172, pX1_next_e, fX1_next_e, ofI_m1, hp1, hp2]
  have hne : gaiK B (σ.1 K 3) ≠ K := xob_ne (ob1 hp1) hp2 (by decide)
  have hne' : (gaiK B (σ.1 K 3) = K) = False := eq_false hne
  simp only [hne', false_and, ↓reduceIte, hR, fX4_doStep_e, true_and]
  have e1 : stp σ B K = xshr (σ.1 (gaiK B (σ.1 K 3)) 2) (2 * σ.1 K 4) &&& 3 := rfl
  have e2 : tgt σ B K = if stp σ B K = 0 then ptw (σ.1 K 1) (σ.1 K 2) else -1 := rfl
  have e3 : stepX σ B K = xI (if ¬ tgt σ B K = -1 ∧ ¬ xlushr (σ.2 B 0) (tgt σ B K) &&& 1 = 1 then xI σ K 1 (tgt σ B K) else xI σ K 2 (trn (σ.1 K 2) (σ.1 K 5) (qrt (σ.1 (gaiK B (σ.1 K 3)) 1) (stp σ B K)))) K 4 (if σ.1 K 4 + 1 < σ.1 (gaiK B (σ.1 K 3)) 0 then σ.1 K 4 + 1 else 0) := rfl
  simp only [← e1]
  simp only [trn, qrt] at e3
  generalize stp σ B K = S at *
  by_cases h0 : S = 0
  · simp only [h0, ↓reduceIte, true_implies, not_true_eq_false, false_implies, and_true, true_and, i10] at e2 e3 ⊢
    generalize ptw (σ.1 K 1) (σ.1 K 2) = P at *
    rw [e3, e2]
    clear e1 e2 e3
    all_goals grind
  · simp only [h0, ↓reduceIte, true_implies, not_true_eq_false, not_false_eq_true, false_implies, and_true, true_and] at e2 e3 ⊢
    rw [e3, e2]
    simp only [not_true_eq_false, false_and, ↓reduceIte]
    clear e1 e2 e3
    all_goals grind
theorem rX4_doStep : ∀ as σ, pX4_doStep as σ → ∃ K as', as = .ref K :: as' ∧ xob WX K 4 := by
  rintro as σ ⟨B, K, rfl, hpre⟩
  exact ⟨_, _, rfl, by first | exact hpre | exact hpre.1 | exact obT hpre | exact obT hpre.1 | exact obS hpre | exact obS hpre.1 | exact obM | exact ob6 | exact ob2 | exact ob0⟩
