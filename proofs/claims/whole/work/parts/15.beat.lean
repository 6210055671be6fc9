/-! a beat, as the class does it -/
def ptw (p d : Int32) : Int32 := if d = 0 then (if 7 ≤ p then p - 7 else -1) else if d = 1 then (if xrem p 7 < 6 then p + 1 else -1) else if d = 2 then (if p < 42 then p + 7 else -1) else (if 0 < xrem p 7 then p - 1 else -1)
def qrt (aw t : Int32) : Int32 := if t = 3 then 0 else if (if t = 0 then aw else t - 1) = 0 then 3 else if t = 0 then aw else t - 1
def trn (way turned q : Int32) : Int32 := xrem (way + (if turned = 1 then 4 - q else q)) 4
def stp (σ : xS) (B K : Nat) : Int32 := xshr (σ.1 (gaiK B (σ.1 K 3)) 2) (2 * σ.1 K 4) &&& 3
def tgt (σ : xS) (B K : Nat) : Int32 := if stp σ B K = 0 then ptw (σ.1 K 1) (σ.1 K 2) else -1
def stepX (σ : xS) (B K : Nat) : xS := xI (if ¬ tgt σ B K = -1 ∧ ¬ xlushr (σ.2 B 0) (tgt σ B K) &&& 1 = 1 then xI σ K 1 (tgt σ B K) else xI σ K 2 (trn (σ.1 K 2) (σ.1 K 5) (qrt (σ.1 (gaiK B (σ.1 K 3)) 1) (stp σ B K)))) K 4 (if σ.1 K 4 + 1 < σ.1 (gaiK B (σ.1 K 3)) 0 then σ.1 K 4 + 1 else 0)
def remX (σ : xS) (K : Nat) : xS := xI (xI (xI (xI σ K 8 (σ.1 K 3)) K 9 (σ.1 K 4)) K 10 (σ.1 K 2)) K 11 (σ.1 K 5)
def pX4_placeThatWay (as : List Value) (σ : xS) : Prop := ∃ (p : Int32) (d : Int32), as = [.int p, .int d] ∧ (True)
def fX4_placeThatWay (as : List Value) (σ : xS) : Option Value × xS := match as with
  | [.int p, .int d] => (some (.int (ptw p d)), σ)
  | _ => (none, σ)
theorem pX4_placeThatWay_e {p : Int32} {d : Int32} {σ : xS} : pX4_placeThatWay [.int p, .int d] σ = (True) := propext ⟨fun h => by obtain ⟨p, d, e, h⟩ := h; cases e; exact h, fun h => ⟨p, d, rfl, h⟩⟩
theorem fX4_placeThatWay_e {p : Int32} {d : Int32} {σ : xS} : fX4_placeThatWay [.int p, .int d] σ = (some (.int (ptw p d)), σ) := rfl
def calX4_placeThatWay : List (Nat × xCall) := []
set_option maxHeartbeats 4000000 in
set_option maxRecDepth 100000 in
theorem mX4_placeThatWay : xMet WX yX4_placeThatWay cX4_placeThatWay 3 (some .int) 1 pX4_placeThatWay fX4_placeThatWay := by
  refine xMet_of (fld := xlk fldX4) (cal := xlk calX4_placeThatWay) (ks := xlk []) (gs := xlk []) (ro := fun _ => none) 0 (by decide) WX_nd rfl fldX4_ok xKs_nil xGs_nil (Or.inr rfl) xcal_nil ?_ ?_
  · rintro av σ ⟨p, d, rfl, hpre⟩
    exact Nat.le_of_ble_eq_true rfl
  rintro av σ ⟨p, d, rfl, hp1⟩ Rt hR
  refine xgo0 43 ?_
  simp (config := {maxSteps := 2000000}) only [xwp_2, xwp_0, xwp_1, xws_s, xdd_o, xld_0, xld_s, xs1_0, xs1_1, xs1_s, xs2_0, xs2_1, xs2_s, xlg_n, xlg_i, xlg_r, xlg_z, xlg_l, xf4_0, xf4_1, xf4_2, xf4_3, xgo_e, xcmp_eq, xcmp_ne, xcmp_lt, xcmp_ge, xcmp_gt, xcmp_le, xfg_0, xfg_1, xfg_2, xfg_3, xfg_4, xpop_0, xpop_s, xsw_n, xsw_c, xtb_n, xtb_c, xenp_n, xenp_i, xenp_r, xenp_z, xenp_l, xrep_0, xrep_s, Nat.reduceSub, true_and, and_true, cat_i, cat_r, Nat.reduceAdd, Nat.reduceLT, Nat.reduceLeDiff, Nat.reduceEqDiff, xnc, Int.reduceAdd, Int.reduceSub, Int.reduceNeg, Int.reduceLE, Int.reduceLT, Int.reduceToNat, ↓reduceIte, List.length_cons, List.length_nil, xlc0, xlc1, ite_10, i10, i01, i0_2, i0_3, i0_4, i0_6, i0_7, i0_8, i0_49, i0_10, or_true, true_or, or_false, false_or, not_false_eq_true, not_true_eq_false, xnt, xI_g, eq_self, xI_2, xJ_1, false_and, and_false, obT_t, obS_t, ob6_t, ob2_t, ob0_t, kT1_t, kT2_t, kT3_t, kT4_t, lT1, lT2, rT6, rT7, rT8, rT9, rT1i, rT2i, rS2, kSe_t, lSe, r0_0, r0_1, r0_2, r0_3, r0_4, r0_5, r0_6, r0_7, r0_8, r0_9, r1_i, r2_4, r2_5, r4_4, a1_t, a3_t, a5_t, a6_t, a7_t, a8_t, l1, l3, l5, l6, l7, l8, T1, T2, T3, T4, nI8, nI6, nI160, nI20, nI401, nI49, ob5_t, ob1_t, vp_tn, tn_def, lgc, dX4_placeThatWay_0, st_iload_n, dX4_placeThatWay_1, st_bipush, dX4_placeThatWay_3, st_irem, dX4_placeThatWay_4, st_istore_n, dX4_placeThatWay_5, dX4_placeThatWay_6, st_tableswitch, dX4_placeThatWay_32, dX4_placeThatWay_33, dX4_placeThatWay_35, st_if_icmp, dX4_placeThatWay_38, dX4_placeThatWay_39, dX4_placeThatWay_41, st_isub, dX4_placeThatWay_42, st_goto, dX4_placeThatWay_45, st_iconst, dX4_placeThatWay_46, st_ireturn, dX4_placeThatWay_47, dX4_placeThatWay_48, dX4_placeThatWay_50, dX4_placeThatWay_53, dX4_placeThatWay_54, dX4_placeThatWay_55, st_iadd, dX4_placeThatWay_56, dX4_placeThatWay_59, dX4_placeThatWay_60, dX4_placeThatWay_61, dX4_placeThatWay_62, dX4_placeThatWay_64, dX4_placeThatWay_67, dX4_placeThatWay_68, dX4_placeThatWay_70, dX4_placeThatWay_71, dX4_placeThatWay_74, dX4_placeThatWay_75, dX4_placeThatWay_76, dX4_placeThatWay_77, st_ifCond, dX4_placeThatWay_80, dX4_placeThatWay_81, dX4_placeThatWay_82, dX4_placeThatWay_83, dX4_placeThatWay_86, dX4_placeThatWay_87, ofI_7, ofI_m2, ofI_m1, ofI_0, ofI_1, ofI_2, ofI_3, ofI_4, ofI_5, ofI_6, ofI_8, ofI_9, ofI_10, ofI_11, ofI_42, hp1]
  simp only [hR, fX4_placeThatWay_e, ptw, Option.some.injEq, Value.int.injEq, and_true, true_and]
  all_goals grind
def pX4_doStep (as : List Value) (σ : xS) : Prop := ∃ (B : Nat) (K : Nat), as = [.ref B, .ref K] ∧ ((xTw B) ∧ (xob WX K 5))
def fX4_doStep (as : List Value) (σ : xS) : Option Value × xS := match as with
  | [.ref B, .ref K] => (none, stepX σ B K)
  | _ => (none, σ)
theorem pX4_doStep_e {B : Nat} {K : Nat} {σ : xS} : pX4_doStep [.ref B, .ref K] σ = ((xTw B) ∧ (xob WX K 5)) := propext ⟨fun h => by obtain ⟨B, K, e, h⟩ := h; cases e; exact h, fun h => ⟨B, K, rfl, h⟩⟩
theorem fX4_doStep_e {B : Nat} {K : Nat} {σ : xS} : fX4_doStep [.ref B, .ref K] σ = (none, stepX σ B K) := rfl
def calX4_doStep : List (Nat × xCall) := [(53, (false, 2, pX4_gaitBy, fX4_gaitBy)), (158, (false, 2, pX1_stepAt, fX1_stepAt)), (161, (true, 2, pX4_placeThatWay, fX4_placeThatWay)), (104, (false, 2, pX4_isWalled, fX4_isWalled)), (165, (false, 2, pX1_quartersOf, fX1_quartersOf)), (168, (false, 2, pX5_turn, fX5_turn)), (172, (false, 2, pX1_next, fX1_next))]
theorem c_X4_doStep_53 : xlk calX4_doStep 53 = some (false, 2, pX4_gaitBy, fX4_gaitBy) := rfl
theorem c_X4_doStep_158 : xlk calX4_doStep 158 = some (false, 2, pX1_stepAt, fX1_stepAt) := rfl
theorem c_X4_doStep_161 : xlk calX4_doStep 161 = some (true, 2, pX4_placeThatWay, fX4_placeThatWay) := rfl
theorem c_X4_doStep_104 : xlk calX4_doStep 104 = some (false, 2, pX4_isWalled, fX4_isWalled) := rfl
theorem c_X4_doStep_165 : xlk calX4_doStep 165 = some (false, 2, pX1_quartersOf, fX1_quartersOf) := rfl
theorem c_X4_doStep_168 : xlk calX4_doStep 168 = some (false, 2, pX5_turn, fX5_turn) := rfl
theorem c_X4_doStep_172 : xlk calX4_doStep 172 = some (false, 2, pX1_next, fX1_next) := rfl
set_option maxHeartbeats 4000000 in
set_option maxRecDepth 100000 in
theorem mX4_doStep : xMet WX yX4_doStep cX4_doStep 5 none 3 pX4_doStep fX4_doStep := by
  refine xMet_of (fld := xlk fldX4) (cal := xlk calX4_doStep) (ks := xlk []) (gs := xlk []) (ro := fun _ => none) 4 (by decide) WX_nd rfl fldX4_ok xKs_nil xGs_nil (Or.inr rfl) (xcal_cons (xCk_V mX4_gaitBy 4 (by decide) (by decide) (by decide) rfl (fun as σ h _ => rX4_gaitBy as σ h) w_X4_53 ⟨by decide, by decide, by decide +kernel⟩) (xcal_cons (xCk_V mX1_stepAt 1 (by decide) (by decide) (by decide) rfl (fun as σ h _ => rX1_stepAt as σ h) w_X4_158 ⟨by decide, by decide, by decide +kernel⟩) (xcal_cons (xCk_S mX4_placeThatWay (by decide) (by decide) w_X4_161 ⟨by decide, by decide, by decide +kernel⟩) (xcal_cons (xCk_V mX4_isWalled 4 (by decide) (by decide) (by decide) rfl (fun as σ h _ => rX4_isWalled as σ h) w_X4_104 ⟨by decide, by decide, by decide +kernel⟩) (xcal_cons (xCk_V mX1_quartersOf 1 (by decide) (by decide) (by decide) rfl (fun as σ h _ => rX1_quartersOf as σ h) w_X4_165 ⟨by decide, by decide, by decide +kernel⟩) (xcal_cons (xCk_V mX5_turn 5 (by decide) (by decide) (by decide) rfl (fun as σ h _ => rX5_turn as σ h) w_X4_168 ⟨by decide, by decide, by decide +kernel⟩) (xcal_cons (xCk_V mX1_next 1 (by decide) (by decide) (by decide) rfl (fun as σ h _ => rX1_next as σ h) w_X4_172 ⟨by decide, by decide, by decide +kernel⟩) xcal_nil))))))) ?_ ?_
  · rintro av σ ⟨B, K, rfl, hpre⟩
    exact Nat.le_of_ble_eq_true rfl
  rintro av σ ⟨B, K, rfl, ⟨hp1, hp2⟩⟩ Rt hR
  refine xgo0 45 ?_
  simp (config := {maxSteps := 2000000}) only [xwp_2, xwp_0, xwp_1, xws_s, xdd_o, xld_0, xld_s, xs1_0, xs1_1, xs1_s, xs2_0, xs2_1, xs2_s, xlg_n, xlg_i, xlg_r, xlg_z, xlg_l, xf4_0, xf4_1, xf4_2, xf4_3, xgo_e, xcmp_eq, xcmp_ne, xcmp_lt, xcmp_ge, xcmp_gt, xcmp_le, xfg_0, xfg_1, xfg_2, xfg_3, xfg_4, xpop_0, xpop_s, xsw_n, xsw_c, xtb_n, xtb_c, xenp_n, xenp_i, xenp_r, xenp_z, xenp_l, xrep_0, xrep_s, Nat.reduceSub, true_and, and_true, cat_i, cat_r, Nat.reduceAdd, Nat.reduceLT, Nat.reduceLeDiff, Nat.reduceEqDiff, xnc, Int.reduceAdd, Int.reduceSub, Int.reduceNeg, Int.reduceLE, Int.reduceLT, Int.reduceToNat, ↓reduceIte, List.length_cons, List.length_nil, xlc0, xlc1, ite_10, i10, i01, i0_2, i0_3, i0_4, i0_6, i0_7, i0_8, i0_49, i0_10, or_true, true_or, or_false, false_or, not_false_eq_true, not_true_eq_false, xnt, xI_g, eq_self, xI_2, xJ_1, false_and, and_false, obT_t, obS_t, ob6_t, ob2_t, ob0_t, kT1_t, kT2_t, kT3_t, kT4_t, lT1, lT2, rT6, rT7, rT8, rT9, rT1i, rT2i, rS2, kSe_t, lSe, r0_0, r0_1, r0_2, r0_3, r0_4, r0_5, r0_6, r0_7, r0_8, r0_9, r1_i, r2_4, r2_5, r4_4, a1_t, a3_t, a5_t, a6_t, a7_t, a8_t, l1, l3, l5, l6, l7, l8, T1, T2, T3, T4, nI8, nI6, nI160, nI20, nI401, nI49, ob5_t, ob1_t, vp_tn, tn_def, lgc, dX4_doStep_0, st_aload_n, dX4_doStep_1, dX4_doStep_2, st_getfield, fl_X4_90, dX4_doStep_5, st_invokevirtual, dX4_doStep_8, st_astore_n, dX4_doStep_9, dX4_doStep_10, dX4_doStep_11, fl_X4_93, dX4_doStep_14, dX4_doStep_17, st_istore_n, dX4_doStep_18, st_iload_n, dX4_doStep_19, st_ifCond, dX4_doStep_22, dX4_doStep_23, fl_X4_84, dX4_doStep_26, dX4_doStep_27, fl_X4_87, dX4_doStep_30, st_invokestatic, dX4_doStep_33, st_goto, dX4_doStep_36, st_iconst, dX4_doStep_37, st_istore, dX4_doStep_39, st_iload, dX4_doStep_41, dX4_doStep_42, st_if_icmp, dX4_doStep_45, dX4_doStep_46, dX4_doStep_48, dX4_doStep_51, dX4_doStep_54, dX4_doStep_55, dX4_doStep_57, st_putfield, dX4_doStep_60, dX4_doStep_63, dX4_doStep_64, dX4_doStep_65, dX4_doStep_66, dX4_doStep_69, dX4_doStep_72, dX4_doStep_73, dX4_doStep_74, dX4_doStep_75, dX4_doStep_78, dX4_doStep_81, dX4_doStep_84, st_return_, c_X4_doStep_53, pX4_gaitBy_e, fX4_gaitBy_e, Option.toList_some, Option.toList_none, List.cons_append, List.nil_append, c_X4_doStep_158, pX1_stepAt_e, fX1_stepAt_e, c_X4_doStep_161, pX4_placeThatWay_e, fX4_placeThatWay_e, c_X4_doStep_104, pX4_isWalled_e, fX4_isWalled_e, c_X4_doStep_165, pX1_quartersOf_e, fX1_quartersOf_e, c_X4_doStep_168, pX5_turn_e, fX5_turn_e, c_X4_doStep_172, pX1_next_e, fX1_next_e, ofI_m1, hp1, hp2]
  have hne : gaiK B (σ.1 K 3) ≠ K := xob_ne (ob1 hp1) hp2 (by decide)
  have hne' : (gaiK B (σ.1 K 3) = K) = False := eq_false hne
  simp only [hne', false_and, ↓reduceIte, hR, fX4_doStep_e, true_and]
  have e1 : stp σ B K = xshr (σ.1 (gaiK B (σ.1 K 3)) 2) (2 * σ.1 K 4) &&& 3 := rfl
  have e2 : tgt σ B K = if stp σ B K = 0 then ptw (σ.1 K 1) (σ.1 K 2) else -1 := rfl
  have e3 : stepX σ B K = xI (if ¬ tgt σ B K = -1 ∧ ¬ xlushr (σ.2 B 0) (tgt σ B K) &&& 1 = 1 then xI σ K 1 (tgt σ B K) else xI σ K 2 (trn (σ.1 K 2) (σ.1 K 5) (qrt (σ.1 (gaiK B (σ.1 K 3)) 1) (stp σ B K)))) K 4 (if σ.1 K 4 + 1 < σ.1 (gaiK B (σ.1 K 3)) 0 then σ.1 K 4 + 1 else 0) := rfl
  simp only [← e1]
  simp only [trn, qrt] at e3
  generalize stp σ B K = S at *
  by_cases h0 : S = 0
  · simp only [h0, ↓reduceIte, true_implies, not_true_eq_false, false_implies, and_true, true_and, i10] at e2 e3 ⊢
    generalize ptw (σ.1 K 1) (σ.1 K 2) = P at *
    rw [e3, e2]
    clear e1 e2 e3
    all_goals grind
  · simp only [h0, ↓reduceIte, true_implies, not_true_eq_false, not_false_eq_true, false_implies, and_true, true_and] at e2 e3 ⊢
    rw [e3, e2]
    simp only [not_true_eq_false, false_and, ↓reduceIte]
    clear e1 e2 e3
    all_goals grind
theorem rX4_doStep : ∀ as σ, pX4_doStep as σ → ∃ K as', as = .ref K :: as' ∧ xob WX K 4 := by
  rintro as σ ⟨B, K, rfl, hpre⟩
  exact ⟨_, _, rfl, by first | exact hpre | exact hpre.1 | exact obT hpre | exact obT hpre.1 | exact obS hpre | exact obS hpre.1 | exact obM | exact ob6 | exact ob2 | exact ob0⟩
/-- the place in the row of the one who is on + 1 behind w -/
def oth (n w j : Nat) : Nat := if w + (j + 1) < n then w + (j + 1) else w + (j + 1) - n
def nxtP (σ : xS) (B n w j : Nat) : Bool := decide (σ.1 (B + 20 + oth n w j) 1 = σ.1 (B + 20 + w) 1)
def nxtN (σ : xS) (B n w : Nat) : Int32 := if xfs (nxtP σ B n w) (n - 1) < n - 1 then nI (oth n w (xfs (nxtP σ B n w) (n - 1))) else -1
def nxt (σ : xS) (B : Nat) (x : Int32) : Int32 := nxtN σ B (tn (σ.1 B 2)) (tn x)
def xlo (n w : Nat) : Nat → Option Value
  | 0 => none
  | i + 1 => some (.int (nI (oth n w i)))
theorem oth_lt {n w j : Nat} (hw : w < n) (hj : j + 1 < n) : oth n w j < n := by
  unfold oth
  split <;> omega
def takeX (τ : xS) (K J : Nat) : xS := xI (xI (xI τ K 3 (τ.1 J 8)) K 4 (τ.1 J 9)) K 5 (if τ.1 K 0 = 4 then 1 - τ.1 J 11 else τ.1 J 11)
def givX (σ : xS) (J : Nat) : Prop := σ.1 J 0 = 0 ∨ σ.1 J 0 = 1 ∨ σ.1 J 0 = 5
def wldX (σ : xS) (K : Nat) (g : Int32) : Prop := if σ.1 K 0 = 6 then σ.1 K 3 < g else σ.1 K 0 = 0 ∨ σ.1 K 0 = 3 ∨ σ.1 K 0 = 4
def bsdX (σ : xS) (K J : Nat) : Prop := iabs (σ.1 K 1 / 7 - σ.1 J 1 / 7) + iabs (xrem (σ.1 K 1) 7 - xrem (σ.1 J 1) 7) = 1
def takB (σ : xS) (K J : Nat) (g : Int32) : Bool := decide ((σ.1 J 0 = 0 ∨ σ.1 J 0 = 1 ∨ σ.1 J 0 = 5) ∧ (if σ.1 K 0 = 6 then σ.1 K 3 < g else σ.1 K 0 = 0 ∨ σ.1 K 0 = 3 ∨ σ.1 K 0 = 4))
def meetX (σ : xS) (B K : Nat) (b : Int32) : xS := if ¬ b = -1 ∧ takB σ K (whoK B b) (σ.1 (whoK B b) 8) = true then xI (takeX (xI σ K 7 1) K (whoK B b)) K 2 (σ.1 (whoK B b) 10) else xI σ K 7 (if b = -1 then 0 else 1)
def ldP (σ : xS) (B K j : Nat) : Bool := decide (σ.1 (B + 20 + j) 0 = 5 ∧ iabs (σ.1 K 1 / 7 - σ.1 (B + 20 + j) 1 / 7) + iabs (xrem (σ.1 K 1) 7 - xrem (σ.1 (B + 20 + j) 1) 7) = 1 ∧ (if σ.1 K 0 = 6 then σ.1 K 3 < σ.1 (B + 20 + j) 3 else σ.1 K 0 = 0 ∨ σ.1 K 0 = 3 ∨ σ.1 K 0 = 4))
def loudX (σ : xS) (B K : Nat) : xS := if xfs (ldP σ B K) (tn (σ.1 B 2)) < tn (σ.1 B 2) then takeX σ K (B + 20 + xfs (ldP σ B K) (tn (σ.1 B 2))) else σ
def pX4_nextThere (as : List Value) (σ : xS) : Prop := ∃ (B : Nat) (x : Int32), as = [.ref B, .int x] ∧ ((xTw B) ∧ (σ.1 B 2 ≤ 6) ∧ (0 ≤ x) ∧ (x < σ.1 B 2))
def fX4_nextThere (as : List Value) (σ : xS) : Option Value × xS := match as with
  | [.ref B, .int x] => (some (.int (nxt σ B x)), σ)
  | _ => (none, σ)
theorem pX4_nextThere_e {B : Nat} {x : Int32} {σ : xS} : pX4_nextThere [.ref B, .int x] σ = ((xTw B) ∧ (σ.1 B 2 ≤ 6) ∧ (0 ≤ x) ∧ (x < σ.1 B 2)) := propext ⟨fun h => by obtain ⟨B, x, e, h⟩ := h; cases e; exact h, fun h => ⟨B, x, rfl, h⟩⟩
theorem fX4_nextThere_e {B : Nat} {x : Int32} {σ : xS} : fX4_nextThere [.ref B, .int x] σ = (some (.int (nxt σ B x)), σ) := rfl
def calX4_nextThere : List (Nat × xCall) := [(65, (false, 2, pX4_who, fX4_who))]
theorem c_X4_nextThere_65 : xlk calX4_nextThere 65 = some (false, 2, pX4_who, fX4_who) := rfl
set_option maxHeartbeats 4000000 in
set_option maxRecDepth 100000 in
theorem mX4_nextThere : xMet WX yX4_nextThere cX4_nextThere 5 (some .int) 3 pX4_nextThere fX4_nextThere := by
  refine xMet_of (fld := xlk fldX4) (cal := xlk calX4_nextThere) (ks := xlk []) (gs := xlk []) (ro := fun _ => none) 0 (by decide) WX_nd rfl fldX4_ok xKs_nil xGs_nil (Or.inr rfl) (xcal_cons (xCk_V mX4_who 4 (by decide) (by decide) (by decide) rfl (fun as σ h _ => rX4_who as σ h) w_X4_65 ⟨by decide, by decide, by decide +kernel⟩) xcal_nil) ?_ ?_
  · rintro av σ ⟨B, x, rfl, hpre⟩
    exact Nat.le_of_ble_eq_true rfl
  rintro av σ ⟨B, x, rfl, ⟨hp1, hp2, hp3, hp4⟩⟩ Rt hR
  have hwk := xwk6 hp2
  have hx : nI (tn x) = x := tn_of hp3
  have hc0 : 0 ≤ σ.1 B 2 := by rw [t_le, t_0] at *; rw [t_lt] at hp4; omega
  have hcn : nI (tn (σ.1 B 2)) = σ.1 B 2 := tn_of hc0
  have hlt : tn x < tn (σ.1 B 2) := by rw [← nI_ltI (by have := tn_lt31 x; omega) (by have := tn_lt31 (σ.1 B 2); omega), hx, hcn]; exact hp4
  have hfn : fX4_nextThere [.ref B, .int x] σ = (some (.int (nxtN σ B (tn (σ.1 B 2)) (tn x))), σ) := rfl
  rw [hfn] at hR
  generalize hn0 : tn (σ.1 B 2) = n at *
  generalize hw0 : tn x = v at *
  subst hx
  refine xfor0 11 (n - 1) 60 30 (fun i => [some (.ref B), some (.int (nI v)), some (.int (σ.1 (B + 20 + v) 1)), some (.int (nI (i + 1))), xlo n v i]) (fun _ => σ) (fun i => ∀ j, j < i → nxtP σ B n v j = false) (fun j hj => by omega) (fun i hi hH => ?_) ?_
  · simp only [xwp_2, xwp_0, xwp_1, xws_s, xdd_o, xld_0, xld_s, xs1_0, xs1_1, xs1_s, xs2_0, xs2_1, xs2_s, xlg_n, xlg_i, xlg_r, xlg_z, xlg_l, xf4_0, xf4_1, xf4_2, xf4_3, xgo_e, xcmp_eq, xcmp_ne, xcmp_lt, xcmp_ge, xcmp_gt, xcmp_le, xfg_0, xfg_1, xfg_2, xfg_3, xfg_4, xpop_0, xpop_s, xsw_n, xsw_c, xtb_n, xtb_c, xenp_n, xenp_i, xenp_r, xenp_z, xenp_l, xrep_0, xrep_s, Nat.reduceSub, true_and, and_true, cat_i, cat_r, Nat.reduceAdd, Nat.reduceLT, Nat.reduceLeDiff, Nat.reduceEqDiff, xnc, Int.reduceAdd, Int.reduceSub, Int.reduceNeg, Int.reduceLE, Int.reduceLT, Int.reduceToNat, ↓reduceIte, List.length_cons, List.length_nil, xlc0, xlc1, ite_10, i10, i01, i0_2, i0_3, i0_4, i0_6, i0_7, i0_8, i0_49, i0_10, or_true, true_or, or_false, false_or, not_false_eq_true, not_true_eq_false, xnt, xI_g, eq_self, xI_2, xJ_1, false_and, and_false, obT_t, obS_t, ob6_t, ob2_t, ob0_t, kT1_t, kT2_t, kT3_t, kT4_t, lT1, lT2, rT6, rT7, rT8, rT9, rT1i, rT2i, rS2, kSe_t, lSe, r0_0, r0_1, r0_2, r0_3, r0_4, r0_5, r0_6, r0_7, r0_8, r0_9, r1_i, r2_4, r2_5, r4_4, a1_t, a3_t, a5_t, a6_t, a7_t, a8_t, l1, l3, l5, l6, l7, l8, T1, T2, T3, T4, nI8, nI6, nI160, nI20, nI401, nI49, ob5_t, ob1_t, vp_tn, tn_def, lgc, dX4_nextThere_0, st_aload_n, dX4_nextThere_1, st_iload_n, dX4_nextThere_2, st_invokevirtual, dX4_nextThere_5, st_getfield, fl_X4_84, dX4_nextThere_8, st_istore_n, dX4_nextThere_9, st_iconst, dX4_nextThere_10, dX4_nextThere_11, dX4_nextThere_12, dX4_nextThere_13, fl_X4_19, dX4_nextThere_16, st_if_icmp, dX4_nextThere_19, dX4_nextThere_20, dX4_nextThere_21, st_iadd, dX4_nextThere_22, dX4_nextThere_23, dX4_nextThere_26, dX4_nextThere_29, dX4_nextThere_30, dX4_nextThere_31, dX4_nextThere_32, st_goto, dX4_nextThere_35, dX4_nextThere_36, dX4_nextThere_37, dX4_nextThere_38, dX4_nextThere_39, dX4_nextThere_42, st_isub, dX4_nextThere_43, st_istore, dX4_nextThere_45, dX4_nextThere_46, st_iload, dX4_nextThere_48, dX4_nextThere_51, dX4_nextThere_54, dX4_nextThere_55, dX4_nextThere_58, dX4_nextThere_60, st_ireturn, dX4_nextThere_61, st_iinc, dX4_nextThere_64, dX4_nextThere_67, dX4_nextThere_68, c_X4_nextThere_65, pX4_who_e, fX4_who_e, Option.toList_some, Option.toList_none, List.cons_append, List.nil_append, ofI_1, ofI_m1, hp1, hp2, hp3, hp4]
    simp only [← hcn, nI_add]
    have e1 : xlo n v (i + 1) = some (.int (nI (oth n v i))) := rfl
    refine ⟨fun h => ?_, fun h => ?_⟩
    · rw [nI_leI (by omega) (by omega)] at h
      rw [hR, nxtN, xfs_no (fun j hj => hH j (by omega)), if_neg (Nat.lt_irrefl _)]
      exact ⟨rfl, rfl⟩
    · rw [nI_leI (by omega) (by omega)] at h
      have h1 : i + 1 < n := by omega
      have ho := oth_lt hlt h1
      have cont : ¬ σ.1 (B + 20 + oth n v i) 1 = σ.1 (B + 20 + v) 1 → (i < n - 1 ∧ (∀ j, j < i + 1 → nxtP σ B n v j = false)) := fun h2 => ⟨by omega, xall_s hH (decide_eq_false h2)⟩
      have stop : σ.1 (B + 20 + oth n v i) 1 = σ.1 (B + 20 + v) 1 → Rt (some (.int (nI (oth n v i)))) σ := fun h2 => by
        have e4 : xfs (nxtP σ B n v) (n - 1) = i := xfs_at (by omega) (decide_eq_true h2) hH
        rw [hR, nxtN, e4, if_pos (by omega)]
        exact ⟨rfl, rfl⟩
      have e3 : nI (i + 1) + 1 = nI (i + 1 + 1) := nI_1 (i + 1)
      by_cases h5 : v + (i + 1) < n
      · have e2 : oth n v i = v + (i + 1) := if_pos h5
        have e5 : ¬ nI n ≤ nI (v + (i + 1)) := by rw [nI_leI (by omega) (by omega)]; omega
        have e6 : whoK B (nI (v + (i + 1))) = B + 20 + (v + (i + 1)) := whoK_n (by omega)
        rw [e2] at cont stop e1
        simp only [e5, e6, e3, e1, true_implies, not_false_eq_true, false_implies, and_true, true_and]
        grind
      · have e2 : oth n v i = v + (i + 1) - n := if_neg h5
        have e5 : nI n ≤ nI (v + (i + 1)) := by rw [nI_leI (by omega) (by omega)]; omega
        have e7 : nI (v + (i + 1)) - nI n = nI (v + (i + 1) - n) := pk_sub (by omega)
        have e6 : whoK B (nI (v + (i + 1) - n)) = B + 20 + (v + (i + 1) - n) := whoK_n (by omega)
        rw [e2] at cont stop e1
        simp only [e5, e7, e6, e3, e1, true_implies, not_true_eq_false, false_implies, and_true, true_and]
        grind
  · simp only [xwp_2, xwp_0, xwp_1, xws_s, xdd_o, xld_0, xld_s, xs1_0, xs1_1, xs1_s, xs2_0, xs2_1, xs2_s, xlg_n, xlg_i, xlg_r, xlg_z, xlg_l, xf4_0, xf4_1, xf4_2, xf4_3, xgo_e, xcmp_eq, xcmp_ne, xcmp_lt, xcmp_ge, xcmp_gt, xcmp_le, xfg_0, xfg_1, xfg_2, xfg_3, xfg_4, xpop_0, xpop_s, xsw_n, xsw_c, xtb_n, xtb_c, xenp_n, xenp_i, xenp_r, xenp_z, xenp_l, xrep_0, xrep_s, Nat.reduceSub, true_and, and_true, cat_i, cat_r, Nat.reduceAdd, Nat.reduceLT, Nat.reduceLeDiff, Nat.reduceEqDiff, xnc, Int.reduceAdd, Int.reduceSub, Int.reduceNeg, Int.reduceLE, Int.reduceLT, Int.reduceToNat, ↓reduceIte, List.length_cons, List.length_nil, xlc0, xlc1, ite_10, i10, i01, i0_2, i0_3, i0_4, i0_6, i0_7, i0_8, i0_49, i0_10, or_true, true_or, or_false, false_or, not_false_eq_true, not_true_eq_false, xnt, xI_g, eq_self, xI_2, xJ_1, false_and, and_false, obT_t, obS_t, ob6_t, ob2_t, ob0_t, kT1_t, kT2_t, kT3_t, kT4_t, lT1, lT2, rT6, rT7, rT8, rT9, rT1i, rT2i, rS2, kSe_t, lSe, r0_0, r0_1, r0_2, r0_3, r0_4, r0_5, r0_6, r0_7, r0_8, r0_9, r1_i, r2_4, r2_5, r4_4, a1_t, a3_t, a5_t, a6_t, a7_t, a8_t, l1, l3, l5, l6, l7, l8, T1, T2, T3, T4, nI8, nI6, nI160, nI20, nI401, nI49, ob5_t, ob1_t, vp_tn, tn_def, lgc, dX4_nextThere_0, st_aload_n, dX4_nextThere_1, st_iload_n, dX4_nextThere_2, st_invokevirtual, dX4_nextThere_5, st_getfield, fl_X4_84, dX4_nextThere_8, st_istore_n, dX4_nextThere_9, st_iconst, dX4_nextThere_10, dX4_nextThere_11, dX4_nextThere_12, dX4_nextThere_13, fl_X4_19, dX4_nextThere_16, st_if_icmp, dX4_nextThere_19, dX4_nextThere_20, dX4_nextThere_21, st_iadd, dX4_nextThere_22, dX4_nextThere_23, dX4_nextThere_26, dX4_nextThere_29, dX4_nextThere_30, dX4_nextThere_31, dX4_nextThere_32, st_goto, dX4_nextThere_35, dX4_nextThere_36, dX4_nextThere_37, dX4_nextThere_38, dX4_nextThere_39, dX4_nextThere_42, st_isub, dX4_nextThere_43, st_istore, dX4_nextThere_45, dX4_nextThere_46, st_iload, dX4_nextThere_48, dX4_nextThere_51, dX4_nextThere_54, dX4_nextThere_55, dX4_nextThere_58, dX4_nextThere_60, st_ireturn, dX4_nextThere_61, st_iinc, dX4_nextThere_64, dX4_nextThere_67, dX4_nextThere_68, c_X4_nextThere_65, pX4_who_e, fX4_who_e, Option.toList_some, Option.toList_none, List.cons_append, List.nil_append, ofI_1, ofI_m1, hp1, hp2, hp3, hp4]
    have e6 : whoK B (nI v) = B + 20 + v := whoK_n (by omega)
    rw [e6]
    first | exact rfl | exact ⟨rfl, rfl⟩ | trivial
theorem rX4_nextThere : ∀ as σ, pX4_nextThere as σ → ∃ K as', as = .ref K :: as' ∧ xob WX K 4 := by
  rintro as σ ⟨B, x, rfl, hpre⟩
  exact ⟨_, _, rfl, by first | exact hpre | exact hpre.1 | exact obT hpre | exact obT hpre.1 | exact obS hpre | exact obS hpre.1 | exact obM | exact ob6 | exact ob2 | exact ob0⟩
def pX4_meetAt (as : List Value) (σ : xS) : Prop := ∃ (B : Nat) (K : Nat) (b : Int32), as = [.ref B, .ref K, .int b] ∧ ((xTw B) ∧ (xob WX K 5))
def fX4_meetAt (as : List Value) (σ : xS) : Option Value × xS := match as with
  | [.ref B, .ref K, .int b] => (none, meetX σ B K b)
  | _ => (none, σ)
theorem pX4_meetAt_e {B : Nat} {K : Nat} {b : Int32} {σ : xS} : pX4_meetAt [.ref B, .ref K, .int b] σ = ((xTw B) ∧ (xob WX K 5)) := propext ⟨fun h => by obtain ⟨B, K, b, e, h⟩ := h; cases e; exact h, fun h => ⟨B, K, b, rfl, h⟩⟩
theorem fX4_meetAt_e {B : Nat} {K : Nat} {b : Int32} {σ : xS} : fX4_meetAt [.ref B, .ref K, .int b] σ = (none, meetX σ B K b) := rfl
def calX4_meetAt : List (Nat × xCall) := [(65, (false, 2, pX4_who, fX4_who)), (175, (false, 1, pX5_gives, fX5_gives)), (111, (false, 2, pX5_wouldTake, fX5_wouldTake)), (182, (false, 2, pX5_takeGaitOf, fX5_takeGaitOf))]
theorem c_X4_meetAt_65 : xlk calX4_meetAt 65 = some (false, 2, pX4_who, fX4_who) := rfl
theorem c_X4_meetAt_175 : xlk calX4_meetAt 175 = some (false, 1, pX5_gives, fX5_gives) := rfl
theorem c_X4_meetAt_111 : xlk calX4_meetAt 111 = some (false, 2, pX5_wouldTake, fX5_wouldTake) := rfl
theorem c_X4_meetAt_182 : xlk calX4_meetAt 182 = some (false, 2, pX5_takeGaitOf, fX5_takeGaitOf) := rfl
set_option maxHeartbeats 4000000 in
set_option maxRecDepth 100000 in
theorem mX4_meetAt : xMet WX yX4_meetAt cX4_meetAt 4 none 3 pX4_meetAt fX4_meetAt := by
  refine xMet_of (fld := xlk fldX4) (cal := xlk calX4_meetAt) (ks := xlk []) (gs := xlk []) (ro := fun _ => none) 4 (by decide) WX_nd rfl fldX4_ok xKs_nil xGs_nil (Or.inr rfl) (xcal_cons (xCk_V mX4_who 4 (by decide) (by decide) (by decide) rfl (fun as σ h _ => rX4_who as σ h) w_X4_65 ⟨by decide, by decide, by decide +kernel⟩) (xcal_cons (xCk_V mX5_gives 5 (by decide) (by decide) (by decide) rfl (fun as σ h _ => rX5_gives as σ h) w_X4_175 ⟨by decide, by decide, by decide +kernel⟩) (xcal_cons (xCk_V mX5_wouldTake 5 (by decide) (by decide) (by decide) rfl (fun as σ h _ => rX5_wouldTake as σ h) w_X4_111 ⟨by decide, by decide, by decide +kernel⟩) (xcal_cons (xCk_V mX5_takeGaitOf 5 (by decide) (by decide) (by decide) rfl (fun as σ h _ => rX5_takeGaitOf as σ h) w_X4_182 ⟨by decide, by decide, by decide +kernel⟩) xcal_nil)))) ?_ ?_
  · rintro av σ ⟨B, K, b, rfl, hpre⟩
    exact Nat.le_of_ble_eq_true rfl
  rintro av σ ⟨B, K, b, rfl, ⟨hp1, hp2⟩⟩ Rt hR
  refine xgo0 33 ?_
  simp (config := {maxSteps := 2000000}) only [xwp_2, xwp_0, xwp_1, xws_s, xdd_o, xld_0, xld_s, xs1_0, xs1_1, xs1_s, xs2_0, xs2_1, xs2_s, xlg_n, xlg_i, xlg_r, xlg_z, xlg_l, xf4_0, xf4_1, xf4_2, xf4_3, xgo_e, xcmp_eq, xcmp_ne, xcmp_lt, xcmp_ge, xcmp_gt, xcmp_le, xfg_0, xfg_1, xfg_2, xfg_3, xfg_4, xpop_0, xpop_s, xsw_n, xsw_c, xtb_n, xtb_c, xenp_n, xenp_i, xenp_r, xenp_z, xenp_l, xrep_0, xrep_s, Nat.reduceSub, true_and, and_true, cat_i, cat_r, Nat.reduceAdd, Nat.reduceLT, Nat.reduceLeDiff, Nat.reduceEqDiff, xnc, Int.reduceAdd, Int.reduceSub, Int.reduceNeg, Int.reduceLE, Int.reduceLT, Int.reduceToNat, ↓reduceIte, List.length_cons, List.length_nil, xlc0, xlc1, ite_10, i10, i01, i0_2, i0_3, i0_4, i0_6, i0_7, i0_8, i0_49, i0_10, or_true, true_or, or_false, false_or, not_false_eq_true, not_true_eq_false, xnt, xI_g, eq_self, xI_2, xJ_1, false_and, and_false, obT_t, obS_t, ob6_t, ob2_t, ob0_t, kT1_t, kT2_t, kT3_t, kT4_t, lT1, lT2, rT6, rT7, rT8, rT9, rT1i, rT2i, rS2, kSe_t, lSe, r0_0, r0_1, r0_2, r0_3, r0_4, r0_5, r0_6, r0_7, r0_8, r0_9, r1_i, r2_4, r2_5, r4_4, a1_t, a3_t, a5_t, a6_t, a7_t, a8_t, l1, l3, l5, l6, l7, l8, T1, T2, T3, T4, nI8, nI6, nI160, nI20, nI401, nI49, ob5_t, ob1_t, vp_tn, tn_def, lgc, dX4_meetAt_0, st_aload_n, dX4_meetAt_1, st_iload_n, dX4_meetAt_2, st_invokevirtual, dX4_meetAt_5, st_astore_n, dX4_meetAt_6, dX4_meetAt_7, dX4_meetAt_8, st_iconst, dX4_meetAt_9, st_if_icmp, dX4_meetAt_12, dX4_meetAt_13, st_goto, dX4_meetAt_16, dX4_meetAt_17, st_putfield, fl_X4_151, dX4_meetAt_20, dX4_meetAt_21, st_getfield, dX4_meetAt_24, st_ifCond, dX4_meetAt_27, dX4_meetAt_28, dX4_meetAt_31, dX4_meetAt_34, dX4_meetAt_35, dX4_meetAt_36, fl_X4_179, dX4_meetAt_39, dX4_meetAt_42, dX4_meetAt_45, dX4_meetAt_46, dX4_meetAt_47, dX4_meetAt_50, dX4_meetAt_51, dX4_meetAt_52, fl_X4_185, dX4_meetAt_55, fl_X4_87, dX4_meetAt_58, st_return_, c_X4_meetAt_65, pX4_who_e, fX4_who_e, Option.toList_some, Option.toList_none, List.cons_append, List.nil_append, c_X4_meetAt_175, pX5_gives_e, fX5_gives_e, c_X4_meetAt_111, pX5_wouldTake_e, fX5_wouldTake_e, c_X4_meetAt_182, pX5_takeGaitOf_e, fX5_takeGaitOf_e, ofI_m1, ofI_1, ofI_0, hp1, hp2]
  simp only [hR, fX4_meetAt_e, ob5_t hp1, true_and]
  have e1 : takB σ K (whoK B b) (σ.1 (whoK B b) 8) = decide ((σ.1 (whoK B b) 0 = 0 ∨ σ.1 (whoK B b) 0 = 1 ∨ σ.1 (whoK B b) 0 = 5) ∧ (if σ.1 K 0 = 6 then σ.1 K 3 < σ.1 (whoK B b) 8 else σ.1 K 0 = 0 ∨ σ.1 K 0 = 3 ∨ σ.1 K 0 = 4)) := rfl
  have e2 : meetX σ B K b = if ¬ b = -1 ∧ takB σ K (whoK B b) (σ.1 (whoK B b) 8) = true then xI (takeX (xI σ K 7 1) K (whoK B b)) K 2 (σ.1 (whoK B b) 10) else xI σ K 7 (if b = -1 then 0 else 1) := rfl
  simp only [takeX, xI_g, Nat.reduceEqDiff, and_false, ↓reduceIte] at e2
  generalize whoK B b = J at *
  all_goals grind
theorem rX4_meetAt : ∀ as σ, pX4_meetAt as σ → ∃ K as', as = .ref K :: as' ∧ xob WX K 4 := by
  rintro as σ ⟨B, K, b, rfl, hpre⟩
  exact ⟨_, _, rfl, by first | exact hpre | exact hpre.1 | exact obT hpre | exact obT hpre.1 | exact obS hpre | exact obS hpre.1 | exact obM | exact ob6 | exact ob2 | exact ob0⟩
def pX4_hearLoud (as : List Value) (σ : xS) : Prop := ∃ (B : Nat) (K : Nat), as = [.ref B, .ref K] ∧ ((xTw B) ∧ (σ.1 B 2 ≤ 6) ∧ (xob WX K 5))
def fX4_hearLoud (as : List Value) (σ : xS) : Option Value × xS := match as with
  | [.ref B, .ref K] => (none, loudX σ B K)
  | _ => (none, σ)
theorem pX4_hearLoud_e {B : Nat} {K : Nat} {σ : xS} : pX4_hearLoud [.ref B, .ref K] σ = ((xTw B) ∧ (σ.1 B 2 ≤ 6) ∧ (xob WX K 5)) := propext ⟨fun h => by obtain ⟨B, K, e, h⟩ := h; cases e; exact h, fun h => ⟨B, K, rfl, h⟩⟩
theorem fX4_hearLoud_e {B : Nat} {K : Nat} {σ : xS} : fX4_hearLoud [.ref B, .ref K] σ = (none, loudX σ B K) := rfl
def calX4_hearLoud : List (Nat × xCall) := [(65, (false, 2, pX4_who, fX4_who)), (131, (false, 2, pX5_isBeside, fX5_isBeside)), (111, (false, 2, pX5_wouldTake, fX5_wouldTake)), (182, (false, 2, pX5_takeGaitOf, fX5_takeGaitOf))]
theorem c_X4_hearLoud_65 : xlk calX4_hearLoud 65 = some (false, 2, pX4_who, fX4_who) := rfl
theorem c_X4_hearLoud_131 : xlk calX4_hearLoud 131 = some (false, 2, pX5_isBeside, fX5_isBeside) := rfl
theorem c_X4_hearLoud_111 : xlk calX4_hearLoud 111 = some (false, 2, pX5_wouldTake, fX5_wouldTake) := rfl
theorem c_X4_hearLoud_182 : xlk calX4_hearLoud 182 = some (false, 2, pX5_takeGaitOf, fX5_takeGaitOf) := rfl
set_option maxHeartbeats 4000000 in
set_option maxRecDepth 100000 in
theorem mX4_hearLoud : xMet WX yX4_hearLoud cX4_hearLoud 4 none 3 pX4_hearLoud fX4_hearLoud := by
  refine xMet_of (fld := xlk fldX4) (cal := xlk calX4_hearLoud) (ks := xlk []) (gs := xlk []) (ro := fun _ => none) 4 (by decide) WX_nd rfl fldX4_ok xKs_nil xGs_nil (Or.inr rfl) (xcal_cons (xCk_V mX4_who 4 (by decide) (by decide) (by decide) rfl (fun as σ h _ => rX4_who as σ h) w_X4_65 ⟨by decide, by decide, by decide +kernel⟩) (xcal_cons (xCk_V mX5_isBeside 5 (by decide) (by decide) (by decide) rfl (fun as σ h _ => rX5_isBeside as σ h) w_X4_131 ⟨by decide, by decide, by decide +kernel⟩) (xcal_cons (xCk_V mX5_wouldTake 5 (by decide) (by decide) (by decide) rfl (fun as σ h _ => rX5_wouldTake as σ h) w_X4_111 ⟨by decide, by decide, by decide +kernel⟩) (xcal_cons (xCk_V mX5_takeGaitOf 5 (by decide) (by decide) (by decide) rfl (fun as σ h _ => rX5_takeGaitOf as σ h) w_X4_182 ⟨by decide, by decide, by decide +kernel⟩) xcal_nil)))) ?_ ?_
  · rintro av σ ⟨B, K, rfl, hpre⟩
    exact Nat.le_of_ble_eq_true rfl
  rintro av σ ⟨B, K, rfl, ⟨hp1, hp2, hp3⟩⟩ Rt hR
  have hwk := xwk6 hp2
  refine xfor0 2 (tn (σ.1 B 2)) 60 20 (fun i => [some (.ref B), some (.ref K), some (.int (nI i)), xlast B i]) (fun i => σ) (fun i => ∀ j, j < i → ldP σ B K j = false) (fun j hj => by omega) (fun i hi hH => ?_) ?_
  · simp only [xwp_2, xwp_0, xwp_1, xws_s, xdd_o, xld_0, xld_s, xs1_0, xs1_1, xs1_s, xs2_0, xs2_1, xs2_s, xlg_n, xlg_i, xlg_r, xlg_z, xlg_l, xf4_0, xf4_1, xf4_2, xf4_3, xgo_e, xcmp_eq, xcmp_ne, xcmp_lt, xcmp_ge, xcmp_gt, xcmp_le, xfg_0, xfg_1, xfg_2, xfg_3, xfg_4, xpop_0, xpop_s, xsw_n, xsw_c, xtb_n, xtb_c, xenp_n, xenp_i, xenp_r, xenp_z, xenp_l, xrep_0, xrep_s, Nat.reduceSub, true_and, and_true, cat_i, cat_r, Nat.reduceAdd, Nat.reduceLT, Nat.reduceLeDiff, Nat.reduceEqDiff, xnc, Int.reduceAdd, Int.reduceSub, Int.reduceNeg, Int.reduceLE, Int.reduceLT, Int.reduceToNat, ↓reduceIte, List.length_cons, List.length_nil, xlc0, xlc1, ite_10, i10, i01, i0_2, i0_3, i0_4, i0_6, i0_7, i0_8, i0_49, i0_10, or_true, true_or, or_false, false_or, not_false_eq_true, not_true_eq_false, xnt, xI_g, eq_self, xI_2, xJ_1, false_and, and_false, obT_t, obS_t, ob6_t, ob2_t, ob0_t, kT1_t, kT2_t, kT3_t, kT4_t, lT1, lT2, rT6, rT7, rT8, rT9, rT1i, rT2i, rS2, kSe_t, lSe, r0_0, r0_1, r0_2, r0_3, r0_4, r0_5, r0_6, r0_7, r0_8, r0_9, r1_i, r2_4, r2_5, r4_4, a1_t, a3_t, a5_t, a6_t, a7_t, a8_t, l1, l3, l5, l6, l7, l8, T1, T2, T3, T4, nI8, nI6, nI160, nI20, nI401, nI49, ob5_t, ob1_t, vp_tn, tn_def, lgc, dX4_hearLoud_0, st_iconst, dX4_hearLoud_1, st_istore_n, dX4_hearLoud_2, st_iload_n, dX4_hearLoud_3, st_aload_n, dX4_hearLoud_4, st_getfield, fl_X4_19, dX4_hearLoud_7, st_if_icmp, dX4_hearLoud_10, dX4_hearLoud_11, dX4_hearLoud_12, st_invokevirtual, dX4_hearLoud_15, st_astore_n, dX4_hearLoud_16, dX4_hearLoud_17, fl_X4_81, dX4_hearLoud_20, dX4_hearLoud_21, dX4_hearLoud_24, dX4_hearLoud_25, dX4_hearLoud_26, dX4_hearLoud_29, st_ifCond, dX4_hearLoud_32, dX4_hearLoud_33, dX4_hearLoud_34, fl_X4_90, dX4_hearLoud_37, dX4_hearLoud_40, dX4_hearLoud_43, dX4_hearLoud_44, dX4_hearLoud_45, dX4_hearLoud_48, st_return_, dX4_hearLoud_49, st_iinc, dX4_hearLoud_52, st_goto, dX4_hearLoud_55, c_X4_hearLoud_65, pX4_who_e, fX4_who_e, Option.toList_some, Option.toList_none, List.cons_append, List.nil_append, c_X4_hearLoud_131, pX5_isBeside_e, fX5_isBeside_e, c_X4_hearLoud_111, pX5_wouldTake_e, fX5_wouldTake_e, c_X4_hearLoud_182, pX5_takeGaitOf_e, fX5_takeGaitOf_e, ofI_0, ofI_5, ofI_1, hp1, hp2, hp3]
    have hc := le_nI_tn (i := i) (x := σ.1 B 2) hi
    have h6n := hwk
    refine ⟨fun h => ?_, fun h => ?_⟩
    · have hn : i = tn (σ.1 B 2) := by rw [hc] at h; omega
      rw [hR, fX4_hearLoud_e, loudX, xfs_no (fun j hj => hH j (by omega)), if_neg (Nat.lt_irrefl _)]
      exact ⟨rfl, rfl⟩
    · have hn : i < tn (σ.1 B 2) := by rw [hc] at h; omega
      have h6 : i < 6 := by omega
      simp only [whoK_n h6]
      have e1 : nI i + 1 = nI (i + 1) := nI_1 i
      have e2 : xlast B (i + 1) = some (.ref (B + 20 + i)) := rfl
      have e3 : ldP σ B K i = decide (σ.1 (B + 20 + i) 0 = 5 ∧ iabs (σ.1 K 1 / 7 - σ.1 (B + 20 + i) 1 / 7) + iabs (xrem (σ.1 K 1) 7 - xrem (σ.1 (B + 20 + i) 1) 7) = 1 ∧ (if σ.1 K 0 = 6 then σ.1 K 3 < σ.1 (B + 20 + i) 3 else σ.1 K 0 = 0 ∨ σ.1 K 0 = 3 ∨ σ.1 K 0 = 4)) := rfl
      have cont : ldP σ B K i = false → (∀ j, j < i + 1 → ldP σ B K j = false) := fun h2 => xall_s hH h2
      have stop : ldP σ B K i = true → Rt none (takeX σ K (B + 20 + i)) := fun h2 => by
        have e4 : xfs (ldP σ B K) (tn (σ.1 B 2)) = i := xfs_at hn h2 hH
        rw [hR, fX4_hearLoud_e, loudX, e4, if_pos hn]
        exact ⟨rfl, rfl⟩
      simp only [takeX] at stop
      try simp only [kTw_t hp1 h6, true_and]
      rw [e1, e2]
      grind
  · simp only [xwp_2, xwp_0, xwp_1, xws_s, xdd_o, xld_0, xld_s, xs1_0, xs1_1, xs1_s, xs2_0, xs2_1, xs2_s, xlg_n, xlg_i, xlg_r, xlg_z, xlg_l, xf4_0, xf4_1, xf4_2, xf4_3, xgo_e, xcmp_eq, xcmp_ne, xcmp_lt, xcmp_ge, xcmp_gt, xcmp_le, xfg_0, xfg_1, xfg_2, xfg_3, xfg_4, xpop_0, xpop_s, xsw_n, xsw_c, xtb_n, xtb_c, xenp_n, xenp_i, xenp_r, xenp_z, xenp_l, xrep_0, xrep_s, Nat.reduceSub, true_and, and_true, cat_i, cat_r, Nat.reduceAdd, Nat.reduceLT, Nat.reduceLeDiff, Nat.reduceEqDiff, xnc, Int.reduceAdd, Int.reduceSub, Int.reduceNeg, Int.reduceLE, Int.reduceLT, Int.reduceToNat, ↓reduceIte, List.length_cons, List.length_nil, xlc0, xlc1, ite_10, i10, i01, i0_2, i0_3, i0_4, i0_6, i0_7, i0_8, i0_49, i0_10, or_true, true_or, or_false, false_or, not_false_eq_true, not_true_eq_false, xnt, xI_g, eq_self, xI_2, xJ_1, false_and, and_false, obT_t, obS_t, ob6_t, ob2_t, ob0_t, kT1_t, kT2_t, kT3_t, kT4_t, lT1, lT2, rT6, rT7, rT8, rT9, rT1i, rT2i, rS2, kSe_t, lSe, r0_0, r0_1, r0_2, r0_3, r0_4, r0_5, r0_6, r0_7, r0_8, r0_9, r1_i, r2_4, r2_5, r4_4, a1_t, a3_t, a5_t, a6_t, a7_t, a8_t, l1, l3, l5, l6, l7, l8, T1, T2, T3, T4, nI8, nI6, nI160, nI20, nI401, nI49, ob5_t, ob1_t, vp_tn, tn_def, lgc, dX4_hearLoud_0, st_iconst, dX4_hearLoud_1, st_istore_n, dX4_hearLoud_2, st_iload_n, dX4_hearLoud_3, st_aload_n, dX4_hearLoud_4, st_getfield, fl_X4_19, dX4_hearLoud_7, st_if_icmp, dX4_hearLoud_10, dX4_hearLoud_11, dX4_hearLoud_12, st_invokevirtual, dX4_hearLoud_15, st_astore_n, dX4_hearLoud_16, dX4_hearLoud_17, fl_X4_81, dX4_hearLoud_20, dX4_hearLoud_21, dX4_hearLoud_24, dX4_hearLoud_25, dX4_hearLoud_26, dX4_hearLoud_29, st_ifCond, dX4_hearLoud_32, dX4_hearLoud_33, dX4_hearLoud_34, fl_X4_90, dX4_hearLoud_37, dX4_hearLoud_40, dX4_hearLoud_43, dX4_hearLoud_44, dX4_hearLoud_45, dX4_hearLoud_48, st_return_, dX4_hearLoud_49, st_iinc, dX4_hearLoud_52, st_goto, dX4_hearLoud_55, c_X4_hearLoud_65, pX4_who_e, fX4_who_e, Option.toList_some, Option.toList_none, List.cons_append, List.nil_append, c_X4_hearLoud_131, pX5_isBeside_e, fX5_isBeside_e, c_X4_hearLoud_111, pX5_wouldTake_e, fX5_wouldTake_e, c_X4_hearLoud_182, pX5_takeGaitOf_e, fX5_takeGaitOf_e, ofI_0, ofI_5, ofI_1, hp1, hp2, hp3]
    first | exact rfl | exact ⟨rfl, rfl⟩ | trivial
theorem rX4_hearLoud : ∀ as σ, pX4_hearLoud as σ → ∃ K as', as = .ref K :: as' ∧ xob WX K 4 := by
  rintro as σ ⟨B, K, rfl, hpre⟩
  exact ⟨_, _, rfl, by first | exact hpre | exact hpre.1 | exact obT hpre | exact obT hpre.1 | exact obS hpre | exact obS hpre.1 | exact obM | exact ob6 | exact ob2 | exact ob0⟩
def st1 (B : Nat) : Nat → xS → xS
  | 0, σ => σ
  | i + 1, σ => remX (stepX (st1 B i σ) B (B + 20 + i)) (B + 20 + i)
def st2 (B : Nat) : Nat → xS → xS
  | 0, σ => σ
  | i + 1, σ => meetX (st2 B i σ) B (B + 20 + i) (nxt (st2 B i σ) B (nI i))
def mt2 (B : Nat) : Nat → xS → Int32
  | 0, _ => 0
  | i + 1, σ => if ¬ nxt (st2 B i σ) B (nI i) = -1 ∧ nxt (st2 B i σ) B (nI i) < nI i then mt2 B i σ + 1 else mt2 B i σ
def st3 (B : Nat) : Nat → xS → xS
  | 0, σ => σ
  | i + 1, σ => if (st3 B i σ).1 (B + 20 + i) 7 = 0 then loudX (st3 B i σ) B (B + 20 + i) else st3 B i σ
def bh2 (B : Nat) (σ : xS) : Nat → Option Value
  | 0 => none
  | i + 1 => some (.int (nxt (st2 B i σ) B (nI i)))
theorem stepX_o {σ : xS} {B K a b : Nat} (h : a ≠ K) : (stepX σ B K).1 a b = σ.1 a b := by
  unfold stepX
  rw [xI_n (fun q => h q.1)]
  split
  · rw [xI_n (fun q => h q.1)]
  · rw [xI_n (fun q => h q.1)]
theorem stepX_2 {σ : xS} {B K : Nat} : (stepX σ B K).2 = σ.2 := by
  unfold stepX
  split <;> rfl
theorem remX_o {σ : xS} {K a b : Nat} (h : a ≠ K) : (remX σ K).1 a b = σ.1 a b := by
  unfold remX
  rw [xI_n (fun q => h q.1), xI_n (fun q => h q.1), xI_n (fun q => h q.1), xI_n (fun q => h q.1)]
theorem remX_2 {σ : xS} {K : Nat} : (remX σ K).2 = σ.2 := rfl
theorem takeX_o {σ : xS} {K J a b : Nat} (h : a ≠ K) : (takeX σ K J).1 a b = σ.1 a b := by
  unfold takeX
  rw [xI_n (fun q => h q.1), xI_n (fun q => h q.1), xI_n (fun q => h q.1)]
theorem takeX_2 {σ : xS} {K J : Nat} : (takeX σ K J).2 = σ.2 := rfl
theorem meetX_o {σ : xS} {B K a b : Nat} {x : Int32} (h : a ≠ K) : (meetX σ B K x).1 a b = σ.1 a b := by
  unfold meetX
  split
  · rw [xI_n (fun q => h q.1), takeX_o h, xI_n (fun q => h q.1)]
  · rw [xI_n (fun q => h q.1)]
theorem meetX_2 {σ : xS} {B K : Nat} {x : Int32} : (meetX σ B K x).2 = σ.2 := by
  unfold meetX
  split <;> rfl
theorem loudX_o {σ : xS} {B K a b : Nat} (h : a ≠ K) : (loudX σ B K).1 a b = σ.1 a b := by
  unfold loudX
  split
  · rw [takeX_o h]
  · rfl
theorem loudX_2 {σ : xS} {B K : Nat} : (loudX σ B K).2 = σ.2 := by
  unfold loudX
  split <;> rfl
theorem st1_o {B a b : Nat} {σ : xS} : ∀ {i : Nat}, (∀ j, j < i → a ≠ B + 20 + j) → (st1 B i σ).1 a b = σ.1 a b
  | 0, _ => rfl
  | i + 1, h => by
    rw [st1, remX_o (h i (by omega)), stepX_o (h i (by omega))]
    exact st1_o (fun j hj => h j (by omega))
theorem st1_2 {B : Nat} {σ : xS} : ∀ {i : Nat}, (st1 B i σ).2 = σ.2
  | 0 => rfl
  | i + 1 => by rw [st1, remX_2, stepX_2]; exact st1_2
theorem st2_o {B a b : Nat} {σ : xS} : ∀ {i : Nat}, (∀ j, j < i → a ≠ B + 20 + j) → (st2 B i σ).1 a b = σ.1 a b
  | 0, _ => rfl
  | i + 1, h => by
    rw [st2, meetX_o (h i (by omega))]
    exact st2_o (fun j hj => h j (by omega))
theorem st2_2 {B : Nat} {σ : xS} : ∀ {i : Nat}, (st2 B i σ).2 = σ.2
  | 0 => rfl
  | i + 1 => by rw [st2, meetX_2]; exact st2_2
theorem st3_o {B a b : Nat} {σ : xS} : ∀ {i : Nat}, (∀ j, j < i → a ≠ B + 20 + j) → (st3 B i σ).1 a b = σ.1 a b
  | 0, _ => rfl
  | i + 1, h => by
    rw [st3]
    split
    · rw [loudX_o (h i (by omega))]
      exact st3_o (fun j hj => h j (by omega))
    · exact st3_o (fun j hj => h j (by omega))
theorem st3_2 {B : Nat} {σ : xS} : ∀ {i : Nat}, (st3 B i σ).2 = σ.2
  | 0 => rfl
  | i + 1 => by
    rw [st3]
    split
    · rw [loudX_2]; exact st3_2
    · exact st3_2
def beatX (B : Nat) (σ : xS) : xS := st3 B (tn (σ.1 B 2)) (st2 B (tn (σ.1 B 2)) (st1 B (tn (σ.1 B 2)) σ))
def metX (B : Nat) (σ : xS) : Int32 := mt2 B (tn (σ.1 B 2)) (st1 B (tn (σ.1 B 2)) σ)
theorem beatX_o {B a b : Nat} {σ : xS} (h : ∀ j, j < tn (σ.1 B 2) → a ≠ B + 20 + j) : (beatX B σ).1 a b = σ.1 a b := by
  rw [beatX, st3_o h, st2_o h, st1_o h]
theorem beatX_2 {B : Nat} {σ : xS} : (beatX B σ).2 = σ.2 := by rw [beatX, st3_2, st2_2, st1_2]
def pX4_goBeat (as : List Value) (σ : xS) : Prop := ∃ (B : Nat), as = [.ref B] ∧ ((xTw B) ∧ (σ.1 B 2 ≤ 6) ∧ (0 ≤ σ.1 B 2))
def fX4_goBeat (as : List Value) (σ : xS) : Option Value × xS := match as with
  | [.ref B] => (some (.int (metX B σ)), beatX B σ)
  | _ => (none, σ)
theorem pX4_goBeat_e {B : Nat} {σ : xS} : pX4_goBeat [.ref B] σ = ((xTw B) ∧ (σ.1 B 2 ≤ 6) ∧ (0 ≤ σ.1 B 2)) := propext ⟨fun h => by obtain ⟨B, e, h⟩ := h; cases e; exact h, fun h => ⟨B, rfl, h⟩⟩
theorem fX4_goBeat_e {B : Nat} {σ : xS} : fX4_goBeat [.ref B] σ = (some (.int (metX B σ)), beatX B σ) := rfl
def calX4_goBeat : List (Nat × xCall) := [(65, (false, 2, pX4_who, fX4_who)), (138, (false, 2, pX4_doStep, fX4_doStep)), (141, (false, 1, pX5_rememberHow, fX5_rememberHow)), (144, (false, 2, pX4_nextThere, fX4_nextThere)), (147, (false, 3, pX4_meetAt, fX4_meetAt)), (155, (false, 2, pX4_hearLoud, fX4_hearLoud))]
theorem c_X4_goBeat_65 : xlk calX4_goBeat 65 = some (false, 2, pX4_who, fX4_who) := rfl
theorem c_X4_goBeat_138 : xlk calX4_goBeat 138 = some (false, 2, pX4_doStep, fX4_doStep) := rfl
theorem c_X4_goBeat_141 : xlk calX4_goBeat 141 = some (false, 1, pX5_rememberHow, fX5_rememberHow) := rfl
theorem c_X4_goBeat_144 : xlk calX4_goBeat 144 = some (false, 2, pX4_nextThere, fX4_nextThere) := rfl
theorem c_X4_goBeat_147 : xlk calX4_goBeat 147 = some (false, 3, pX4_meetAt, fX4_meetAt) := rfl
theorem c_X4_goBeat_155 : xlk calX4_goBeat 155 = some (false, 2, pX4_hearLoud, fX4_hearLoud) := rfl
set_option maxHeartbeats 4000000 in
set_option maxRecDepth 100000 in
theorem mX4_goBeat : xMet WX yX4_goBeat cX4_goBeat 4 (some .int) 4 pX4_goBeat fX4_goBeat := by
  refine xMet_of (fld := xlk fldX4) (cal := xlk calX4_goBeat) (ks := xlk []) (gs := xlk []) (ro := fun _ => none) 0 (by decide) WX_nd rfl fldX4_ok xKs_nil xGs_nil (Or.inr rfl) (xcal_cons (xCk_V mX4_who 4 (by decide) (by decide) (by decide) rfl (fun as σ h _ => rX4_who as σ h) w_X4_65 ⟨by decide, by decide, by decide +kernel⟩) (xcal_cons (xCk_V mX4_doStep 4 (by decide) (by decide) (by decide) rfl (fun as σ h _ => rX4_doStep as σ h) w_X4_138 ⟨by decide, by decide, by decide +kernel⟩) (xcal_cons (xCk_V mX5_rememberHow 5 (by decide) (by decide) (by decide) rfl (fun as σ h _ => rX5_rememberHow as σ h) w_X4_141 ⟨by decide, by decide, by decide +kernel⟩) (xcal_cons (xCk_V mX4_nextThere 4 (by decide) (by decide) (by decide) rfl (fun as σ h _ => rX4_nextThere as σ h) w_X4_144 ⟨by decide, by decide, by decide +kernel⟩) (xcal_cons (xCk_V mX4_meetAt 4 (by decide) (by decide) (by decide) rfl (fun as σ h _ => rX4_meetAt as σ h) w_X4_147 ⟨by decide, by decide, by decide +kernel⟩) (xcal_cons (xCk_V mX4_hearLoud 4 (by decide) (by decide) (by decide) rfl (fun as σ h _ => rX4_hearLoud as σ h) w_X4_155 ⟨by decide, by decide, by decide +kernel⟩) xcal_nil)))))) ?_ ?_
  · rintro av σ ⟨B, rfl, hpre⟩
    exact Nat.le_of_ble_eq_true rfl
  rintro av σ ⟨B, rfl, ⟨hp1, hp2, hp3⟩⟩ Rt hR
  have hwk := xwk6 hp2
  have hcn : nI (tn (σ.1 B 2)) = σ.1 B 2 := tn_of hp3
  rw [fX4_goBeat_e] at hR
  simp only [beatX, metX] at hR
  generalize hn0 : tn (σ.1 B 2) = n at *
  have q1 : ∀ i, i ≤ n → ∀ b, (st1 B i σ).1 B b = σ.1 B b := fun i hi b => st1_o (fun j hj => by omega)
  have q2 : ∀ i, i ≤ n → ∀ b, (st2 B i (st1 B n σ)).1 B b = σ.1 B b := fun i hi b => by rw [st2_o (fun j hj => by omega), q1 n (Nat.le_refl n)]
  have q3 : ∀ i, i ≤ n → ∀ b, (st3 B i (st2 B n (st1 B n σ))).1 B b = σ.1 B b := fun i hi b => by rw [st3_o (fun j hj => by omega), q2 n (Nat.le_refl n)]
  have hl3 : xGo WX 4 (xlk fldX4) (xlk calX4_goBeat) (xlk []) (xlk []) (fun _ => none) 0 cX4_goBeat Rt 82 [some (.ref B), some (.int (mt2 B n (st1 B n σ))), some (.int (nI 0)), bh2 B (st1 B n σ) n] [] (st3 B 0 (st2 B n (st1 B n σ))) := by
    refine xfor 82 n 40 (fun i => [some (.ref B), some (.int (mt2 B n (st1 B n σ))), some (.int (nI i)), bh2 B (st1 B n σ) n]) (fun i => st3 B i (st2 B n (st1 B n σ))) (fun _ => True) (fun i hi _ => ?_) 0 (Nat.zero_le n) trivial
    simp only [xwp_2, xwp_0, xwp_1, xws_s, xdd_o, xld_0, xld_s, xs1_0, xs1_1, xs1_s, xs2_0, xs2_1, xs2_s, xlg_n, xlg_i, xlg_r, xlg_z, xlg_l, xf4_0, xf4_1, xf4_2, xf4_3, xgo_e, xcmp_eq, xcmp_ne, xcmp_lt, xcmp_ge, xcmp_gt, xcmp_le, xfg_0, xfg_1, xfg_2, xfg_3, xfg_4, xpop_0, xpop_s, xsw_n, xsw_c, xtb_n, xtb_c, xenp_n, xenp_i, xenp_r, xenp_z, xenp_l, xrep_0, xrep_s, Nat.reduceSub, true_and, and_true, cat_i, cat_r, Nat.reduceAdd, Nat.reduceLT, Nat.reduceLeDiff, Nat.reduceEqDiff, xnc, Int.reduceAdd, Int.reduceSub, Int.reduceNeg, Int.reduceLE, Int.reduceLT, Int.reduceToNat, ↓reduceIte, List.length_cons, List.length_nil, xlc0, xlc1, ite_10, i10, i01, i0_2, i0_3, i0_4, i0_6, i0_7, i0_8, i0_49, i0_10, or_true, true_or, or_false, false_or, not_false_eq_true, not_true_eq_false, xnt, xI_g, eq_self, xI_2, xJ_1, false_and, and_false, obT_t, obS_t, ob6_t, ob2_t, ob0_t, kT1_t, kT2_t, kT3_t, kT4_t, lT1, lT2, rT6, rT7, rT8, rT9, rT1i, rT2i, rS2, kSe_t, lSe, r0_0, r0_1, r0_2, r0_3, r0_4, r0_5, r0_6, r0_7, r0_8, r0_9, r1_i, r2_4, r2_5, r4_4, a1_t, a3_t, a5_t, a6_t, a7_t, a8_t, l1, l3, l5, l6, l7, l8, T1, T2, T3, T4, nI8, nI6, nI160, nI20, nI401, nI49, ob5_t, ob1_t, vp_tn, tn_def, lgc, dX4_goBeat_0, st_iconst, dX4_goBeat_1, st_istore_n, dX4_goBeat_2, st_iload_n, dX4_goBeat_3, st_aload_n, dX4_goBeat_4, st_getfield, fl_X4_19, dX4_goBeat_7, st_if_icmp, dX4_goBeat_10, dX4_goBeat_11, dX4_goBeat_12, dX4_goBeat_13, st_invokevirtual, dX4_goBeat_16, dX4_goBeat_19, dX4_goBeat_20, dX4_goBeat_21, dX4_goBeat_24, dX4_goBeat_27, st_iinc, dX4_goBeat_30, st_goto, dX4_goBeat_33, dX4_goBeat_34, dX4_goBeat_35, dX4_goBeat_36, dX4_goBeat_37, dX4_goBeat_38, dX4_goBeat_39, dX4_goBeat_42, dX4_goBeat_45, dX4_goBeat_46, dX4_goBeat_47, dX4_goBeat_50, dX4_goBeat_51, dX4_goBeat_52, dX4_goBeat_53, dX4_goBeat_54, dX4_goBeat_57, dX4_goBeat_58, dX4_goBeat_61, dX4_goBeat_62, dX4_goBeat_63, dX4_goBeat_66, dX4_goBeat_67, dX4_goBeat_68, dX4_goBeat_71, dX4_goBeat_74, dX4_goBeat_77, dX4_goBeat_80, dX4_goBeat_81, dX4_goBeat_82, dX4_goBeat_83, dX4_goBeat_84, dX4_goBeat_87, dX4_goBeat_90, dX4_goBeat_91, dX4_goBeat_92, dX4_goBeat_95, fl_X4_151, dX4_goBeat_98, st_ifCond, dX4_goBeat_101, dX4_goBeat_102, dX4_goBeat_103, dX4_goBeat_104, dX4_goBeat_107, dX4_goBeat_110, dX4_goBeat_113, dX4_goBeat_116, dX4_goBeat_117, st_ireturn, c_X4_goBeat_65, pX4_who_e, fX4_who_e, Option.toList_some, Option.toList_none, List.cons_append, List.nil_append, c_X4_goBeat_138, pX4_doStep_e, fX4_doStep_e, c_X4_goBeat_141, pX5_rememberHow_e, fX5_rememberHow_e, c_X4_goBeat_144, pX4_nextThere_e, fX4_nextThere_e, c_X4_goBeat_147, pX4_meetAt_e, fX4_meetAt_e, c_X4_goBeat_155, pX4_hearLoud_e, fX4_hearLoud_e, ofI_0, ofI_1, ofI_m1, hp1, hp2, hp3]
    have hc := le_nI_tn (i := i) (x := σ.1 B 2) (by omega)
    rw [hn0] at hc
    simp only [q3 i hi, hp2, true_and]
    refine ⟨fun h => ?_, fun h => ?_⟩
    · have hn : i = n := by rw [hc] at h; omega
      rw [hR, ← hn]
      exact ⟨rfl, rfl⟩
    · have hn : i < n := by rw [hc] at h; omega
      have h6 : i < 6 := by omega
      have e1 : nI i + 1 = nI (i + 1) := nI_1 i
      have e2 : st3 B (i + 1) (st2 B n (st1 B n σ)) = if (st3 B i (st2 B n (st1 B n σ))).1 (B + 20 + i) 7 = 0 then loudX (st3 B i (st2 B n (st1 B n σ))) B (B + 20 + i) else st3 B i (st2 B n (st1 B n σ)) := rfl
      simp only [whoK_n h6, kTw_t hp1 h6, true_and, hn, e1]
      rw [e2]
      grind
  have hl2 : xGo WX 4 (xlk fldX4) (xlk calX4_goBeat) (xlk []) (xlk []) (fun _ => none) 0 cX4_goBeat Rt 37 [some (.ref B), some (.int (mt2 B 0 (st1 B n σ))), some (.int (nI 0)), bh2 B (st1 B n σ) 0] [] (st2 B 0 (st1 B n σ)) := by
    refine xfor2 37 82 n 60 (fun L st τ => L = [some (.ref B), some (.int (mt2 B n (st1 B n σ))), some (.int (nI 0)), bh2 B (st1 B n σ) n] ∧ st = [] ∧ τ = st3 B 0 (st2 B n (st1 B n σ))) (by rintro _ _ _ ⟨rfl, rfl, rfl⟩; exact hl3) (fun i => [some (.ref B), some (.int (mt2 B i (st1 B n σ))), some (.int (nI i)), bh2 B (st1 B n σ) i]) (fun i => st2 B i (st1 B n σ)) (fun _ => True) (fun i hi _ => ?_) 0 (Nat.zero_le n) trivial
    simp only [xwp_2, xwp_0, xwp_1, xws_s, xdd_o, xld_0, xld_s, xs1_0, xs1_1, xs1_s, xs2_0, xs2_1, xs2_s, xlg_n, xlg_i, xlg_r, xlg_z, xlg_l, xf4_0, xf4_1, xf4_2, xf4_3, xgo_e, xcmp_eq, xcmp_ne, xcmp_lt, xcmp_ge, xcmp_gt, xcmp_le, xfg_0, xfg_1, xfg_2, xfg_3, xfg_4, xpop_0, xpop_s, xsw_n, xsw_c, xtb_n, xtb_c, xenp_n, xenp_i, xenp_r, xenp_z, xenp_l, xrep_0, xrep_s, Nat.reduceSub, true_and, and_true, cat_i, cat_r, Nat.reduceAdd, Nat.reduceLT, Nat.reduceLeDiff, Nat.reduceEqDiff, xnc, Int.reduceAdd, Int.reduceSub, Int.reduceNeg, Int.reduceLE, Int.reduceLT, Int.reduceToNat, ↓reduceIte, List.length_cons, List.length_nil, xlc0, xlc1, ite_10, i10, i01, i0_2, i0_3, i0_4, i0_6, i0_7, i0_8, i0_49, i0_10, or_true, true_or, or_false, false_or, not_false_eq_true, not_true_eq_false, xnt, xI_g, eq_self, xI_2, xJ_1, false_and, and_false, obT_t, obS_t, ob6_t, ob2_t, ob0_t, kT1_t, kT2_t, kT3_t, kT4_t, lT1, lT2, rT6, rT7, rT8, rT9, rT1i, rT2i, rS2, kSe_t, lSe, r0_0, r0_1, r0_2, r0_3, r0_4, r0_5, r0_6, r0_7, r0_8, r0_9, r1_i, r2_4, r2_5, r4_4, a1_t, a3_t, a5_t, a6_t, a7_t, a8_t, l1, l3, l5, l6, l7, l8, T1, T2, T3, T4, nI8, nI6, nI160, nI20, nI401, nI49, ob5_t, ob1_t, vp_tn, tn_def, lgc, dX4_goBeat_0, st_iconst, dX4_goBeat_1, st_istore_n, dX4_goBeat_2, st_iload_n, dX4_goBeat_3, st_aload_n, dX4_goBeat_4, st_getfield, fl_X4_19, dX4_goBeat_7, st_if_icmp, dX4_goBeat_10, dX4_goBeat_11, dX4_goBeat_12, dX4_goBeat_13, st_invokevirtual, dX4_goBeat_16, dX4_goBeat_19, dX4_goBeat_20, dX4_goBeat_21, dX4_goBeat_24, dX4_goBeat_27, st_iinc, dX4_goBeat_30, st_goto, dX4_goBeat_33, dX4_goBeat_34, dX4_goBeat_35, dX4_goBeat_36, dX4_goBeat_37, dX4_goBeat_38, dX4_goBeat_39, dX4_goBeat_42, dX4_goBeat_45, dX4_goBeat_46, dX4_goBeat_47, dX4_goBeat_50, dX4_goBeat_51, dX4_goBeat_52, dX4_goBeat_53, dX4_goBeat_54, dX4_goBeat_57, dX4_goBeat_58, dX4_goBeat_61, dX4_goBeat_62, dX4_goBeat_63, dX4_goBeat_66, dX4_goBeat_67, dX4_goBeat_68, dX4_goBeat_71, dX4_goBeat_74, dX4_goBeat_77, dX4_goBeat_80, dX4_goBeat_81, dX4_goBeat_82, dX4_goBeat_83, dX4_goBeat_84, dX4_goBeat_87, dX4_goBeat_90, dX4_goBeat_91, dX4_goBeat_92, dX4_goBeat_95, fl_X4_151, dX4_goBeat_98, st_ifCond, dX4_goBeat_101, dX4_goBeat_102, dX4_goBeat_103, dX4_goBeat_104, dX4_goBeat_107, dX4_goBeat_110, dX4_goBeat_113, dX4_goBeat_116, dX4_goBeat_117, st_ireturn, c_X4_goBeat_65, pX4_who_e, fX4_who_e, Option.toList_some, Option.toList_none, List.cons_append, List.nil_append, c_X4_goBeat_138, pX4_doStep_e, fX4_doStep_e, c_X4_goBeat_141, pX5_rememberHow_e, fX5_rememberHow_e, c_X4_goBeat_144, pX4_nextThere_e, fX4_nextThere_e, c_X4_goBeat_147, pX4_meetAt_e, fX4_meetAt_e, c_X4_goBeat_155, pX4_hearLoud_e, fX4_hearLoud_e, ofI_0, ofI_1, ofI_m1, hp1, hp2, hp3]
    have hc := le_nI_tn (i := i) (x := σ.1 B 2) (by omega)
    rw [hn0] at hc
    have hlt := nI_lt_tn (i := i) (x := σ.1 B 2) (by omega)
    rw [hn0] at hlt
    have hpos : 0 ≤ nI i := nI_pos' (by omega)
    simp only [q2 i hi, hp2, hpos, true_and]
    refine ⟨fun h => ?_, fun h => ?_⟩
    · have hn : i = n := by rw [hc] at h; omega
      rw [hn]
      first | exact rfl | exact ⟨rfl, rfl⟩ | trivial
    · have hn : i < n := by rw [hc] at h; omega
      have h6 : i < 6 := by omega
      have e1 : nI i + 1 = nI (i + 1) := nI_1 i
      have e2 : st2 B (i + 1) (st1 B n σ) = meetX (st2 B i (st1 B n σ)) B (B + 20 + i) (nxt (st2 B i (st1 B n σ)) B (nI i)) := rfl
      have e3 : mt2 B (i + 1) (st1 B n σ) = if ¬ nxt (st2 B i (st1 B n σ)) B (nI i) = -1 ∧ nxt (st2 B i (st1 B n σ)) B (nI i) < nI i then mt2 B i (st1 B n σ) + 1 else mt2 B i (st1 B n σ) := rfl
      have e4 : bh2 B (st1 B n σ) (i + 1) = some (.int (nxt (st2 B i (st1 B n σ)) B (nI i))) := rfl
      have e5 : nI i < σ.1 B 2 := hlt.mpr hn
      simp only [whoK_n h6, kTw_t hp1 h6, true_and, hn, e1, e5]
      rw [e2, e3, e4]
      grind
  refine xto 2 (fun L st τ => L = [some (.ref B), some (.int (nI 0)), none, none] ∧ st = [] ∧ τ = st1 B 0 σ) 20 (fun L st τ hh => ?_) ?_
  · obtain ⟨h1, h2, h3⟩ := hh
    rw [h1, h2, h3]
    refine xfor2 2 37 n 60 (fun L st τ => L = [some (.ref B), some (.int (mt2 B 0 (st1 B n σ))), some (.int (nI 0)), bh2 B (st1 B n σ) 0] ∧ st = [] ∧ τ = st2 B 0 (st1 B n σ)) (by rintro _ _ _ ⟨rfl, rfl, rfl⟩; exact hl2) (fun i => [some (.ref B), some (.int (nI i)), none, none]) (fun i => st1 B i σ) (fun _ => True) (fun i hi _ => ?_) 0 (Nat.zero_le n) trivial
    simp only [xwp_2, xwp_0, xwp_1, xws_s, xdd_o, xld_0, xld_s, xs1_0, xs1_1, xs1_s, xs2_0, xs2_1, xs2_s, xlg_n, xlg_i, xlg_r, xlg_z, xlg_l, xf4_0, xf4_1, xf4_2, xf4_3, xgo_e, xcmp_eq, xcmp_ne, xcmp_lt, xcmp_ge, xcmp_gt, xcmp_le, xfg_0, xfg_1, xfg_2, xfg_3, xfg_4, xpop_0, xpop_s, xsw_n, xsw_c, xtb_n, xtb_c, xenp_n, xenp_i, xenp_r, xenp_z, xenp_l, xrep_0, xrep_s, Nat.reduceSub, true_and, and_true, cat_i, cat_r, Nat.reduceAdd, Nat.reduceLT, Nat.reduceLeDiff, Nat.reduceEqDiff, xnc, Int.reduceAdd, Int.reduceSub, Int.reduceNeg, Int.reduceLE, Int.reduceLT, Int.reduceToNat, ↓reduceIte, List.length_cons, List.length_nil, xlc0, xlc1, ite_10, i10, i01, i0_2, i0_3, i0_4, i0_6, i0_7, i0_8, i0_49, i0_10, or_true, true_or, or_false, false_or, not_false_eq_true, not_true_eq_false, xnt, xI_g, eq_self, xI_2, xJ_1, false_and, and_false, obT_t, obS_t, ob6_t, ob2_t, ob0_t, kT1_t, kT2_t, kT3_t, kT4_t, lT1, lT2, rT6, rT7, rT8, rT9, rT1i, rT2i, rS2, kSe_t, lSe, r0_0, r0_1, r0_2, r0_3, r0_4, r0_5, r0_6, r0_7, r0_8, r0_9, r1_i, r2_4, r2_5, r4_4, a1_t, a3_t, a5_t, a6_t, a7_t, a8_t, l1, l3, l5, l6, l7, l8, T1, T2, T3, T4, nI8, nI6, nI160, nI20, nI401, nI49, ob5_t, ob1_t, vp_tn, tn_def, lgc, dX4_goBeat_0, st_iconst, dX4_goBeat_1, st_istore_n, dX4_goBeat_2, st_iload_n, dX4_goBeat_3, st_aload_n, dX4_goBeat_4, st_getfield, fl_X4_19, dX4_goBeat_7, st_if_icmp, dX4_goBeat_10, dX4_goBeat_11, dX4_goBeat_12, dX4_goBeat_13, st_invokevirtual, dX4_goBeat_16, dX4_goBeat_19, dX4_goBeat_20, dX4_goBeat_21, dX4_goBeat_24, dX4_goBeat_27, st_iinc, dX4_goBeat_30, st_goto, dX4_goBeat_33, dX4_goBeat_34, dX4_goBeat_35, dX4_goBeat_36, dX4_goBeat_37, dX4_goBeat_38, dX4_goBeat_39, dX4_goBeat_42, dX4_goBeat_45, dX4_goBeat_46, dX4_goBeat_47, dX4_goBeat_50, dX4_goBeat_51, dX4_goBeat_52, dX4_goBeat_53, dX4_goBeat_54, dX4_goBeat_57, dX4_goBeat_58, dX4_goBeat_61, dX4_goBeat_62, dX4_goBeat_63, dX4_goBeat_66, dX4_goBeat_67, dX4_goBeat_68, dX4_goBeat_71, dX4_goBeat_74, dX4_goBeat_77, dX4_goBeat_80, dX4_goBeat_81, dX4_goBeat_82, dX4_goBeat_83, dX4_goBeat_84, dX4_goBeat_87, dX4_goBeat_90, dX4_goBeat_91, dX4_goBeat_92, dX4_goBeat_95, fl_X4_151, dX4_goBeat_98, st_ifCond, dX4_goBeat_101, dX4_goBeat_102, dX4_goBeat_103, dX4_goBeat_104, dX4_goBeat_107, dX4_goBeat_110, dX4_goBeat_113, dX4_goBeat_116, dX4_goBeat_117, st_ireturn, c_X4_goBeat_65, pX4_who_e, fX4_who_e, Option.toList_some, Option.toList_none, List.cons_append, List.nil_append, c_X4_goBeat_138, pX4_doStep_e, fX4_doStep_e, c_X4_goBeat_141, pX5_rememberHow_e, fX5_rememberHow_e, c_X4_goBeat_144, pX4_nextThere_e, fX4_nextThere_e, c_X4_goBeat_147, pX4_meetAt_e, fX4_meetAt_e, c_X4_goBeat_155, pX4_hearLoud_e, fX4_hearLoud_e, ofI_0, ofI_1, ofI_m1, hp1, hp2, hp3]
    have hc := le_nI_tn (i := i) (x := σ.1 B 2) (by omega)
    rw [hn0] at hc
    simp only [q1 i hi, hp2, true_and]
    refine ⟨fun h => ?_, fun h => ?_⟩
    · have hn : i = n := by rw [hc] at h; omega
      rw [hn]
      first | exact rfl | exact ⟨rfl, rfl⟩ | trivial
    · have hn : i < n := by rw [hc] at h; omega
      have h6 : i < 6 := by omega
      have e1 : nI i + 1 = nI (i + 1) := nI_1 i
      have e2 : st1 B (i + 1) σ = remX (stepX (st1 B i σ) B (B + 20 + i)) (B + 20 + i) := rfl
      simp only [whoK_n h6, kTw_t hp1 h6, true_and, hn, e1]
      rw [e2]
      first | exact rfl | exact ⟨rfl, rfl⟩ | trivial
  · simp only [xwp_2, xwp_0, xwp_1, xws_s, xdd_o, xld_0, xld_s, xs1_0, xs1_1, xs1_s, xs2_0, xs2_1, xs2_s, xlg_n, xlg_i, xlg_r, xlg_z, xlg_l, xf4_0, xf4_1, xf4_2, xf4_3, xgo_e, xcmp_eq, xcmp_ne, xcmp_lt, xcmp_ge, xcmp_gt, xcmp_le, xfg_0, xfg_1, xfg_2, xfg_3, xfg_4, xpop_0, xpop_s, xsw_n, xsw_c, xtb_n, xtb_c, xenp_n, xenp_i, xenp_r, xenp_z, xenp_l, xrep_0, xrep_s, Nat.reduceSub, true_and, and_true, cat_i, cat_r, Nat.reduceAdd, Nat.reduceLT, Nat.reduceLeDiff, Nat.reduceEqDiff, xnc, Int.reduceAdd, Int.reduceSub, Int.reduceNeg, Int.reduceLE, Int.reduceLT, Int.reduceToNat, ↓reduceIte, List.length_cons, List.length_nil, xlc0, xlc1, ite_10, i10, i01, i0_2, i0_3, i0_4, i0_6, i0_7, i0_8, i0_49, i0_10, or_true, true_or, or_false, false_or, not_false_eq_true, not_true_eq_false, xnt, xI_g, eq_self, xI_2, xJ_1, false_and, and_false, obT_t, obS_t, ob6_t, ob2_t, ob0_t, kT1_t, kT2_t, kT3_t, kT4_t, lT1, lT2, rT6, rT7, rT8, rT9, rT1i, rT2i, rS2, kSe_t, lSe, r0_0, r0_1, r0_2, r0_3, r0_4, r0_5, r0_6, r0_7, r0_8, r0_9, r1_i, r2_4, r2_5, r4_4, a1_t, a3_t, a5_t, a6_t, a7_t, a8_t, l1, l3, l5, l6, l7, l8, T1, T2, T3, T4, nI8, nI6, nI160, nI20, nI401, nI49, ob5_t, ob1_t, vp_tn, tn_def, lgc, dX4_goBeat_0, st_iconst, dX4_goBeat_1, st_istore_n, dX4_goBeat_2, st_iload_n, dX4_goBeat_3, st_aload_n, dX4_goBeat_4, st_getfield, fl_X4_19, dX4_goBeat_7, st_if_icmp, dX4_goBeat_10, dX4_goBeat_11, dX4_goBeat_12, dX4_goBeat_13, st_invokevirtual, dX4_goBeat_16, dX4_goBeat_19, dX4_goBeat_20, dX4_goBeat_21, dX4_goBeat_24, dX4_goBeat_27, st_iinc, dX4_goBeat_30, st_goto, dX4_goBeat_33, dX4_goBeat_34, dX4_goBeat_35, dX4_goBeat_36, dX4_goBeat_37, dX4_goBeat_38, dX4_goBeat_39, dX4_goBeat_42, dX4_goBeat_45, dX4_goBeat_46, dX4_goBeat_47, dX4_goBeat_50, dX4_goBeat_51, dX4_goBeat_52, dX4_goBeat_53, dX4_goBeat_54, dX4_goBeat_57, dX4_goBeat_58, dX4_goBeat_61, dX4_goBeat_62, dX4_goBeat_63, dX4_goBeat_66, dX4_goBeat_67, dX4_goBeat_68, dX4_goBeat_71, dX4_goBeat_74, dX4_goBeat_77, dX4_goBeat_80, dX4_goBeat_81, dX4_goBeat_82, dX4_goBeat_83, dX4_goBeat_84, dX4_goBeat_87, dX4_goBeat_90, dX4_goBeat_91, dX4_goBeat_92, dX4_goBeat_95, fl_X4_151, dX4_goBeat_98, st_ifCond, dX4_goBeat_101, dX4_goBeat_102, dX4_goBeat_103, dX4_goBeat_104, dX4_goBeat_107, dX4_goBeat_110, dX4_goBeat_113, dX4_goBeat_116, dX4_goBeat_117, st_ireturn, c_X4_goBeat_65, pX4_who_e, fX4_who_e, Option.toList_some, Option.toList_none, List.cons_append, List.nil_append, c_X4_goBeat_138, pX4_doStep_e, fX4_doStep_e, c_X4_goBeat_141, pX5_rememberHow_e, fX5_rememberHow_e, c_X4_goBeat_144, pX4_nextThere_e, fX4_nextThere_e, c_X4_goBeat_147, pX4_meetAt_e, fX4_meetAt_e, c_X4_goBeat_155, pX4_hearLoud_e, fX4_hearLoud_e, ofI_0, ofI_1, ofI_m1, hp1, hp2, hp3]
    first | exact rfl | exact ⟨rfl, rfl⟩ | trivial
theorem rX4_goBeat : ∀ as σ, pX4_goBeat as σ → ∃ K as', as = .ref K :: as' ∧ xob WX K 4 := by
  rintro as σ ⟨B, rfl, hpre⟩
  exact ⟨_, _, rfl, by first | exact hpre | exact hpre.1 | exact obT hpre | exact obT hpre.1 | exact obS hpre | exact obS hpre.1 | exact obM | exact ob6 | exact ob2 | exact ob0⟩
