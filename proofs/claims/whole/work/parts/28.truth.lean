/-- shelves of the gone hold nothing -/
def esX : Nat → xS → xS
  | 0, σ => σ
  | i + 1, σ => if (0 ≤ (esX i σ).1 (10 + i) 0 ∧ (esX i σ).1 (10 + i) 0 < 100) ∧ ¬ (0 ≤ (esX i σ).1 (10 + i) 0 ∧ (esX i σ).1 (10 + i) 0 < σ.1 100 2) then xI (xI (esX i σ) (10 + i) 0 (-1)) (10 + i) 1 0 else esX i σ
theorem esX_o {σ : xS} {a b : Nat} (h : a < 10 ∨ 18 ≤ a) : ∀ {i : Nat}, i ≤ 8 → (esX i σ).1 a b = σ.1 a b
  | 0, _ => rfl
  | i + 1, hi => by
    rw [esX]
    split
    · rw [xI_n (by omega), xI_n (by omega)]
      exact esX_o h (by omega)
    · exact esX_o h (by omega)
theorem esX_2 {σ : xS} : ∀ {i : Nat}, (esX i σ).2 = σ.2
  | 0 => rfl
  | i + 1 => by
    rw [esX]
    split
    · exact esX_2
    · exact esX_2
theorem esX_s {σ : xS} {i : Nat} : esX (i + 1) σ = if (0 ≤ (esX i σ).1 (10 + i) 0 ∧ (esX i σ).1 (10 + i) 0 < 100) ∧ ¬ (0 ≤ (esX i σ).1 (10 + i) 0 ∧ (esX i σ).1 (10 + i) 0 < σ.1 100 2) then xI (xI (esX i σ) (10 + i) 0 (-1)) (10 + i) 1 0 else esX i σ := rfl
def esl : Nat → Option Value
  | 0 => none
  | i + 1 => some (.ref (10 + i))
theorem esl_s {i : Nat} : esl (i + 1) = some (.ref (10 + i)) := rfl
def pX6_emptyShelvesOfTheGone (as : List Value) (σ : xS) : Prop := as = [.ref 0] ∧ (True)
def fX6_emptyShelvesOfTheGone (as : List Value) (σ : xS) : Option Value × xS := match as with
  | [.ref 0] => (none, esX 8 σ)
  | _ => (none, σ)
theorem pX6_emptyShelvesOfTheGone_e {σ : xS} : pX6_emptyShelvesOfTheGone [.ref 0] σ = (True) := propext ⟨fun h => h.2, fun h => ⟨rfl, h⟩⟩
theorem fX6_emptyShelvesOfTheGone_e  {σ : xS} : fX6_emptyShelvesOfTheGone [.ref 0] σ = (none, esX 8 σ) := rfl
def calX6_emptyShelvesOfTheGone : List (Nat × xCall) := [(90, (false, 1, pX3_hasWalker, fX3_hasWalker)), (104, (false, 2, pX4_hasWalker, fX4_hasWalker)), (106, (false, 2, pX3_hold, fX3_hold))]
theorem c_X6_emptyShelvesOfTheGone_90 : xlk calX6_emptyShelvesOfTheGone 90 = some (false, 1, pX3_hasWalker, fX3_hasWalker) := rfl
theorem c_X6_emptyShelvesOfTheGone_104 : xlk calX6_emptyShelvesOfTheGone 104 = some (false, 2, pX4_hasWalker, fX4_hasWalker) := rfl
theorem c_X6_emptyShelvesOfTheGone_106 : xlk calX6_emptyShelvesOfTheGone 106 = some (false, 2, pX3_hold, fX3_hold) := rfl
set_option maxHeartbeats 4000000 in
set_option maxRecDepth 100000 in
theorem mX6_emptyShelvesOfTheGone : xMet WX yX6_emptyShelvesOfTheGone cX6_emptyShelvesOfTheGone 3 none 2 pX6_emptyShelvesOfTheGone fX6_emptyShelvesOfTheGone := by
  refine xMet_of (fld := xlk fldX6) (cal := xlk calX6_emptyShelvesOfTheGone) (ks := xlk []) (gs := xlk []) (ro := fun _ => none) 4 (by decide) WX_nd rfl fldX6_ok xKs_nil xGs_nil (Or.inr rfl) (xcal_cons (xCk_V mX3_hasWalker 3 (by decide) (by decide) (by decide) rfl (fun as σ h _ => rX3_hasWalker as σ h) w_X6_90 ⟨by decide, by decide, by decide +kernel⟩) (xcal_cons (xCk_V mX4_hasWalker 4 (by decide) (by decide) (by decide) rfl (fun as σ h _ => rX4_hasWalker as σ h) w_X6_104 ⟨by decide, by decide, by decide +kernel⟩) (xcal_cons (xCk_V mX3_hold 3 (by decide) (by decide) (by decide) rfl (fun as σ h _ => rX3_hold as σ h) w_X6_106 ⟨by decide, by decide, by decide +kernel⟩) xcal_nil))) ?_ ?_
  · rintro av σ ⟨rfl, hpre⟩
    exact Nat.le_of_ble_eq_true rfl
  rintro av σ ⟨rfl, hp1⟩ Rt hR
  have hx : fX6_emptyShelvesOfTheGone [.ref 0] σ = (none, esX 8 σ) := rfl
  rw [hx] at hR
  clear hx
  refine xto 2 (fun L st t => L = [some (.ref 0), some (.int (nI 0)), none] ∧ st = [] ∧ t = σ) 10 ?_ ?_
  · rintro L st t ⟨eL, est, et⟩
    rw [eL, est, et]
    refine xfor 2 8 60 (fun i => [some (.ref 0), some (.int (nI i)), esl i]) (fun i => esX i σ) (fun _ => True) (fun i hi _ => ?_) 0 (Nat.zero_le _) trivial
    have hc : (8 : Int32) ≤ nI i ↔ 8 ≤ i := nI_leI (a := 8) (by omega) (by omega)
    have e0 : 0 ≤ nI i := nI_pos' (by omega)
    have e1 : nI i + 1 = nI (i + 1) := nI_1 i
    have e2 : tn (nI i) = i := tn_nI (by omega)
    have e3 : (esX i σ).1 100 2 = σ.1 100 2 := esX_o (by omega) hi
    by_cases h8 : 8 ≤ i
    · have hi8 : i = 8 := by omega
      subst hi8
      simp -implicitDefEqProofs only [xwp_2, xwp_0, xwp_1, xws_s, xdd_o, xld_0, xld_s, xs1_0, xs1_1, xs1_s, xs2_0, xs2_1, xs2_s, xlg_n, xlg_i, xlg_r, xlg_z, xlg_l, xf4_0, xf4_1, xf4_2, xf4_3, xgo_e, xcmp_eq, xcmp_ne, xcmp_lt, xcmp_ge, xcmp_gt, xcmp_le, xfg_0, xfg_1, xfg_2, xfg_3, xfg_4, xpop_0, xpop_s, xsw_n, xsw_c, xtb_n, xtb_c, xenp_n, xenp_i, xenp_r, xenp_z, xenp_l, xrep_0, xrep_s, Nat.reduceSub, true_and, and_true, cat_i, cat_r, Nat.reduceAdd, Nat.reduceLT, Nat.reduceLeDiff, Nat.reduceEqDiff, xnc, Int.reduceAdd, Int.reduceSub, Int.reduceNeg, Int.reduceLE, Int.reduceLT, Int.reduceToNat, ↓reduceIte, List.length_cons, List.length_nil, xlc0, xlc1, ite_10, i10, i01, i0_2, i0_3, i0_4, i0_6, i0_7, i0_8, i0_49, i0_10, or_true, true_or, or_false, false_or, not_false_eq_true, not_true_eq_false, xnt, xI_g, eq_self, xI_2, xJ_1, false_and, and_false, obT_t, obS_t, ob6_t, ob2_t, ob0_t, kT1_t, kT2_t, kT3_t, kT4_t, lT1, lT2, rT6, rT7, rT8, rT9, rT1i, rT2i, rS2, kSe_t, lSe, r0_0, r0_1, r0_2, r0_3, r0_4, r0_5, r0_6, r0_7, r0_8, r0_9, r1_i, r2_4, r2_5, r4_4, a1_t, a3_t, a5_t, a6_t, a7_t, a8_t, l1, l3, l5, l6, l7, l8, T1, T2, T3, T4, nI8, nI6, nI160, nI20, nI401, nI49, ob5_t, ob1_t, vp_tn, tn_def, lgc, dX6_emptyShelvesOfTheGone_0, st_iconst, dX6_emptyShelvesOfTheGone_1, st_istore_n, dX6_emptyShelvesOfTheGone_2, st_iload_n, dX6_emptyShelvesOfTheGone_3, st_aload_n, dX6_emptyShelvesOfTheGone_4, st_getfield, fl_X6_11, dX6_emptyShelvesOfTheGone_7, st_arraylength, dX6_emptyShelvesOfTheGone_8, st_if_icmp, dX6_emptyShelvesOfTheGone_11, dX6_emptyShelvesOfTheGone_12, dX6_emptyShelvesOfTheGone_15, dX6_emptyShelvesOfTheGone_16, st_aaload, dX6_emptyShelvesOfTheGone_17, st_astore_n, dX6_emptyShelvesOfTheGone_18, dX6_emptyShelvesOfTheGone_19, st_ifnull, dX6_emptyShelvesOfTheGone_22, dX6_emptyShelvesOfTheGone_23, st_invokevirtual, dX6_emptyShelvesOfTheGone_26, st_ifCond, dX6_emptyShelvesOfTheGone_29, dX6_emptyShelvesOfTheGone_30, fl_X6_18, dX6_emptyShelvesOfTheGone_33, dX6_emptyShelvesOfTheGone_34, fl_X6_93, dX6_emptyShelvesOfTheGone_37, dX6_emptyShelvesOfTheGone_40, dX6_emptyShelvesOfTheGone_43, dX6_emptyShelvesOfTheGone_44, dX6_emptyShelvesOfTheGone_45, dX6_emptyShelvesOfTheGone_48, st_iinc, dX6_emptyShelvesOfTheGone_51, st_goto, dX6_emptyShelvesOfTheGone_54, st_return_, c_X6_emptyShelvesOfTheGone_90, pX3_hasWalker_e, fX3_hasWalker_e, Option.toList_some, Option.toList_none, List.cons_append, List.nil_append, c_X6_emptyShelvesOfTheGone_104, pX4_hasWalker_e, fX4_hasWalker_e, c_X6_emptyShelvesOfTheGone_106, pX3_hold_e, fX3_hold_e, ofI_0, ofI_m1, ofJ_1, hp1, hc, hR]
      simp
    · have hlt : i < 8 := by omega
      have hsh : xSh (10 + i) := sh_i hlt
      simp -implicitDefEqProofs only [xwp_2, xwp_0, xwp_1, xws_s, xdd_o, xld_0, xld_s, xs1_0, xs1_1, xs1_s, xs2_0, xs2_1, xs2_s, xlg_n, xlg_i, xlg_r, xlg_z, xlg_l, xf4_0, xf4_1, xf4_2, xf4_3, xgo_e, xcmp_eq, xcmp_ne, xcmp_lt, xcmp_ge, xcmp_gt, xcmp_le, xfg_0, xfg_1, xfg_2, xfg_3, xfg_4, xpop_0, xpop_s, xsw_n, xsw_c, xtb_n, xtb_c, xenp_n, xenp_i, xenp_r, xenp_z, xenp_l, xrep_0, xrep_s, Nat.reduceSub, true_and, and_true, cat_i, cat_r, Nat.reduceAdd, Nat.reduceLT, Nat.reduceLeDiff, Nat.reduceEqDiff, xnc, Int.reduceAdd, Int.reduceSub, Int.reduceNeg, Int.reduceLE, Int.reduceLT, Int.reduceToNat, ↓reduceIte, List.length_cons, List.length_nil, xlc0, xlc1, ite_10, i10, i01, i0_2, i0_3, i0_4, i0_6, i0_7, i0_8, i0_49, i0_10, or_true, true_or, or_false, false_or, not_false_eq_true, not_true_eq_false, xnt, xI_g, eq_self, xI_2, xJ_1, false_and, and_false, obT_t, obS_t, ob6_t, ob2_t, ob0_t, kT1_t, kT2_t, kT3_t, kT4_t, lT1, lT2, rT6, rT7, rT8, rT9, rT1i, rT2i, rS2, kSe_t, lSe, r0_0, r0_1, r0_2, r0_3, r0_4, r0_5, r0_6, r0_7, r0_8, r0_9, r1_i, r2_4, r2_5, r4_4, a1_t, a3_t, a5_t, a6_t, a7_t, a8_t, l1, l3, l5, l6, l7, l8, T1, T2, T3, T4, nI8, nI6, nI160, nI20, nI401, nI49, ob5_t, ob1_t, vp_tn, tn_def, lgc, dX6_emptyShelvesOfTheGone_0, st_iconst, dX6_emptyShelvesOfTheGone_1, st_istore_n, dX6_emptyShelvesOfTheGone_2, st_iload_n, dX6_emptyShelvesOfTheGone_3, st_aload_n, dX6_emptyShelvesOfTheGone_4, st_getfield, fl_X6_11, dX6_emptyShelvesOfTheGone_7, st_arraylength, dX6_emptyShelvesOfTheGone_8, st_if_icmp, dX6_emptyShelvesOfTheGone_11, dX6_emptyShelvesOfTheGone_12, dX6_emptyShelvesOfTheGone_15, dX6_emptyShelvesOfTheGone_16, st_aaload, dX6_emptyShelvesOfTheGone_17, st_astore_n, dX6_emptyShelvesOfTheGone_18, dX6_emptyShelvesOfTheGone_19, st_ifnull, dX6_emptyShelvesOfTheGone_22, dX6_emptyShelvesOfTheGone_23, st_invokevirtual, dX6_emptyShelvesOfTheGone_26, st_ifCond, dX6_emptyShelvesOfTheGone_29, dX6_emptyShelvesOfTheGone_30, fl_X6_18, dX6_emptyShelvesOfTheGone_33, dX6_emptyShelvesOfTheGone_34, fl_X6_93, dX6_emptyShelvesOfTheGone_37, dX6_emptyShelvesOfTheGone_40, dX6_emptyShelvesOfTheGone_43, dX6_emptyShelvesOfTheGone_44, dX6_emptyShelvesOfTheGone_45, dX6_emptyShelvesOfTheGone_48, st_iinc, dX6_emptyShelvesOfTheGone_51, st_goto, dX6_emptyShelvesOfTheGone_54, st_return_, c_X6_emptyShelvesOfTheGone_90, pX3_hasWalker_e, fX3_hasWalker_e, Option.toList_some, Option.toList_none, List.cons_append, List.nil_append, c_X6_emptyShelvesOfTheGone_104, pX4_hasWalker_e, fX4_hasWalker_e, c_X6_emptyShelvesOfTheGone_106, pX3_hold_e, fX3_hold_e, ofI_0, ofI_m1, ofJ_1, hp1, hc, h8, hlt, hsh, e0, e1, e2, e3]
      rw [esX_s, esl_s]
      clear hR hc e0 e1 e2 e3
      generalize esX i σ = t at *
      grind (splits := 40)
  · simp -implicitDefEqProofs only [xwp_2, xwp_0, xwp_1, xws_s, xdd_o, xld_0, xld_s, xs1_0, xs1_1, xs1_s, xs2_0, xs2_1, xs2_s, xlg_n, xlg_i, xlg_r, xlg_z, xlg_l, xf4_0, xf4_1, xf4_2, xf4_3, xgo_e, xcmp_eq, xcmp_ne, xcmp_lt, xcmp_ge, xcmp_gt, xcmp_le, xfg_0, xfg_1, xfg_2, xfg_3, xfg_4, xpop_0, xpop_s, xsw_n, xsw_c, xtb_n, xtb_c, xenp_n, xenp_i, xenp_r, xenp_z, xenp_l, xrep_0, xrep_s, Nat.reduceSub, true_and, and_true, cat_i, cat_r, Nat.reduceAdd, Nat.reduceLT, Nat.reduceLeDiff, Nat.reduceEqDiff, xnc, Int.reduceAdd, Int.reduceSub, Int.reduceNeg, Int.reduceLE, Int.reduceLT, Int.reduceToNat, ↓reduceIte, List.length_cons, List.length_nil, xlc0, xlc1, ite_10, i10, i01, i0_2, i0_3, i0_4, i0_6, i0_7, i0_8, i0_49, i0_10, or_true, true_or, or_false, false_or, not_false_eq_true, not_true_eq_false, xnt, xI_g, eq_self, xI_2, xJ_1, false_and, and_false, obT_t, obS_t, ob6_t, ob2_t, ob0_t, kT1_t, kT2_t, kT3_t, kT4_t, lT1, lT2, rT6, rT7, rT8, rT9, rT1i, rT2i, rS2, kSe_t, lSe, r0_0, r0_1, r0_2, r0_3, r0_4, r0_5, r0_6, r0_7, r0_8, r0_9, r1_i, r2_4, r2_5, r4_4, a1_t, a3_t, a5_t, a6_t, a7_t, a8_t, l1, l3, l5, l6, l7, l8, T1, T2, T3, T4, nI8, nI6, nI160, nI20, nI401, nI49, ob5_t, ob1_t, vp_tn, tn_def, lgc, dX6_emptyShelvesOfTheGone_0, st_iconst, dX6_emptyShelvesOfTheGone_1, st_istore_n, dX6_emptyShelvesOfTheGone_2, st_iload_n, dX6_emptyShelvesOfTheGone_3, st_aload_n, dX6_emptyShelvesOfTheGone_4, st_getfield, fl_X6_11, dX6_emptyShelvesOfTheGone_7, st_arraylength, dX6_emptyShelvesOfTheGone_8, st_if_icmp, dX6_emptyShelvesOfTheGone_11, dX6_emptyShelvesOfTheGone_12, dX6_emptyShelvesOfTheGone_15, dX6_emptyShelvesOfTheGone_16, st_aaload, dX6_emptyShelvesOfTheGone_17, st_astore_n, dX6_emptyShelvesOfTheGone_18, dX6_emptyShelvesOfTheGone_19, st_ifnull, dX6_emptyShelvesOfTheGone_22, dX6_emptyShelvesOfTheGone_23, st_invokevirtual, dX6_emptyShelvesOfTheGone_26, st_ifCond, dX6_emptyShelvesOfTheGone_29, dX6_emptyShelvesOfTheGone_30, fl_X6_18, dX6_emptyShelvesOfTheGone_33, dX6_emptyShelvesOfTheGone_34, fl_X6_93, dX6_emptyShelvesOfTheGone_37, dX6_emptyShelvesOfTheGone_40, dX6_emptyShelvesOfTheGone_43, dX6_emptyShelvesOfTheGone_44, dX6_emptyShelvesOfTheGone_45, dX6_emptyShelvesOfTheGone_48, st_iinc, dX6_emptyShelvesOfTheGone_51, st_goto, dX6_emptyShelvesOfTheGone_54, st_return_, c_X6_emptyShelvesOfTheGone_90, pX3_hasWalker_e, fX3_hasWalker_e, Option.toList_some, Option.toList_none, List.cons_append, List.nil_append, c_X6_emptyShelvesOfTheGone_104, pX4_hasWalker_e, fX4_hasWalker_e, c_X6_emptyShelvesOfTheGone_106, pX3_hold_e, fX3_hold_e, ofI_0, ofI_m1, ofJ_1, hp1]
    first | exact rfl | exact ⟨rfl, rfl⟩ | trivial
theorem rX6_emptyShelvesOfTheGone : ∀ as σ, pX6_emptyShelvesOfTheGone as σ → ∃ K as', as = .ref K :: as' ∧ xob WX K 6 := by
  rintro as σ ⟨rfl, hpre⟩
  exact ⟨_, _, rfl, by first | exact hpre | exact hpre.1 | exact obT hpre | exact obT hpre.1 | exact obS hpre | exact obS hpre.1 | exact obM | exact ob6 | exact ob2 | exact ob0⟩
def beaX (σ : xS) (n : Int32) : Int32 × xS := if n < 1 ∨ 99 < n then noX σ (-6) else (mbX 100 (tn n) σ, gbsX 100 n σ)
def goeX (σ : xS) : Int32 × xS := if σ.1 100 2 = 0 then noX σ (-6) else (σ.1 100 2 - 1, esX 8 (xI σ 100 2 (σ.1 100 2 - 1)))
def teaX (σ : xS) (x g : Int32) : Int32 × xS := if ¬ (0 ≤ x ∧ x < σ.1 100 2) ∨ ¬ (0 ≤ g ∧ g < σ.1 100 1) then noX σ (-1) else (σ.1 (whoK 100 x) 3, xI (xI σ (whoK 100 x) 3 g) (whoK 100 x) 4 0)
def seeX (σ : xS) (v : Int32) : Int32 × xS := (σ.1 100 5, xI σ 100 5 v)
def actX (σ : xS) (x a y : Int32) : Int32 × xS := if ¬ (0 ≤ x ∧ x < σ.1 100 2) ∨ ¬ (0 ≤ a ∧ a ≤ 2) then (0, xI σ 4 0 0) else (rbX (xI (xI (xI (xI σ 4 0 0) 4 1 (σ.1 (whoK 100 x) 0)) 4 2 x) 4 3 (σ.1 (whoK 100 x) 6)) (σ.1 (whoK 100 x) 0) a y, rbS' (xI (xI (xI (xI σ 4 0 0) 4 1 (σ.1 (whoK 100 x) 0)) 4 2 x) 4 3 (σ.1 (whoK 100 x) 6)) (σ.1 (whoK 100 x) 0) a y)
def traX (σ : xS) (i : Int32) : Int32 := if 0 ≤ i ∧ i < σ.1 4 0 ∧ i < 20 then σ.1 5 (tn i) else -1
def imaX (σ : xS) : Int32 × xS := (σ.1 100 2, xI (cpT 300 100 σ) 0 9 1)
def resX (σ : xS) : Int32 × xS := if σ.1 0 9 = 0 then noX σ (-6) else (σ.1 300 2, esX 8 (cpT 100 300 σ))
def staX (σ : xS) (x : Int32) : Int32 := if 1 ≤ x - 10 ∧ x - 10 < 8 then σ.1 6 (tn (x - 10)) else if x = 0 then σ.1 100 1 else if x = 1 then σ.1 100 2 else if x = 2 then bc64 (σ.2 100 0) else if x = 3 then σ.1 100 3 else if x = 4 then σ.1 100 4 else if x = 5 then σ.1 100 5 else if x = 6 then σ.1 4 0 else -1
theorem whoK_ne {x : Int32} {k : Nat} (h : k < 100) : (whoK 100 x = k) = False := eq_false (by unfold whoK; split <;> omega)
theorem whoK_100 {x : Int32} : (whoK 100 x = 100) = False := eq_false (by unfold whoK; split <;> omega)
theorem esX_k {σ : xS} : (esX 8 σ).1 100 2 = σ.1 100 2 := esX_o (by omega) (Nat.le_refl 8)
theorem cpT_13 {σ : xS} : (cpT 100 300 σ).1 100 2 = σ.1 300 2 := cpT_c (by omega)
theorem cpT_31 {σ : xS} (hw : σ.1 100 2 ≤ 6) (hg : σ.1 100 1 ≤ 8) : (cpT 300 100 σ).1 100 2 = σ.1 100 2 := cpT_o (xwk6 hw) (xwk8 hg) (by omega)
theorem ne31 : ((300 : Nat) ≠ 100) = True := eq_true (by decide)
theorem ne13 : ((100 : Nat) ≠ 300) = True := eq_true (by decide)
def pX6_beat (as : List Value) (σ : xS) : Prop := ∃ (n : Int32), as = [.ref 0, .int n] ∧ ((0 ≤ σ.1 100 2) ∧ (σ.1 100 2 ≤ 6))
def fX6_beat (as : List Value) (σ : xS) : Option Value × xS := match as with
  | [.ref 0, .int n] => (some (.int (beaX σ n).1), (beaX σ n).2)
  | _ => (none, σ)
theorem pX6_beat_e {n : Int32} {σ : xS} : pX6_beat [.ref 0, .int n] σ = ((0 ≤ σ.1 100 2) ∧ (σ.1 100 2 ≤ 6)) := propext ⟨fun h => by obtain ⟨n, e, h⟩ := h; cases e; exact h, fun h => ⟨n, rfl, h⟩⟩
theorem fX6_beat_e {n : Int32} {σ : xS} : fX6_beat [.ref 0, .int n] σ = (some (.int (beaX σ n).1), (beaX σ n).2) := rfl
def calX6_beat : List (Nat × xCall) := [(66, (false, 2, pX6_refuse, fX6_refuse)), (233, (false, 2, pX4_goBeats, fX4_goBeats))]
theorem c_X6_beat_66 : xlk calX6_beat 66 = some (false, 2, pX6_refuse, fX6_refuse) := rfl
theorem c_X6_beat_233 : xlk calX6_beat 233 = some (false, 2, pX4_goBeats, fX4_goBeats) := rfl
set_option maxHeartbeats 4000000 in
set_option maxRecDepth 100000 in
theorem mX6_beat : xMet WX yX6_beat cX6_beat 2 (some .int) 6 pX6_beat fX6_beat := by
  refine xMet_of (fld := xlk fldX6) (cal := xlk calX6_beat) (ks := xlk []) (gs := xlk []) (ro := fun _ => none) 0 (by decide) WX_nd rfl fldX6_ok xKs_nil xGs_nil (Or.inr rfl) (xcal_cons (xCk_V mX6_refuse 6 (by decide) (by decide) (by decide) rfl (fun as σ h _ => rX6_refuse as σ h) w_X6_66 ⟨by decide, by decide, by decide +kernel⟩) (xcal_cons (xCk_V mX4_goBeats 4 (by decide) (by decide) (by decide) rfl (fun as σ h _ => rX4_goBeats as σ h) w_X6_233 ⟨by decide, by decide, by decide +kernel⟩) xcal_nil)) ?_ ?_
  · rintro av σ ⟨n, rfl, hpre⟩
    exact Nat.le_of_ble_eq_true rfl
  rintro av σ ⟨n, rfl, ⟨hp1, hp2⟩⟩ Rt hR
  have hR2 := hR2_g (Rt := Rt) (F := beaX σ n) (fun r s' => by rw [hR, fX6_beat_e])
  refine xgo0 17 ?_
  simp (config := {maxSteps := 4000000, implicitDefEqProofs := false}) only [xwp_2, xwp_0, xwp_1, xws_s, xdd_o, xld_0, xld_s, xs1_0, xs1_1, xs1_s, xs2_0, xs2_1, xs2_s, xlg_n, xlg_i, xlg_r, xlg_z, xlg_l, xf4_0, xf4_1, xf4_2, xf4_3, xgo_e, xcmp_eq, xcmp_ne, xcmp_lt, xcmp_ge, xcmp_gt, xcmp_le, xfg_0, xfg_1, xfg_2, xfg_3, xfg_4, xpop_0, xpop_s, xsw_n, xsw_c, xtb_n, xtb_c, xenp_n, xenp_i, xenp_r, xenp_z, xenp_l, xrep_0, xrep_s, Nat.reduceSub, true_and, and_true, cat_i, cat_r, Nat.reduceAdd, Nat.reduceLT, Nat.reduceLeDiff, Nat.reduceEqDiff, xnc, Int.reduceAdd, Int.reduceSub, Int.reduceNeg, Int.reduceLE, Int.reduceLT, Int.reduceToNat, ↓reduceIte, List.length_cons, List.length_nil, xlc0, xlc1, ite_10, i10, i01, i0_2, i0_3, i0_4, i0_6, i0_7, i0_8, i0_49, i0_10, or_true, true_or, or_false, false_or, not_false_eq_true, not_true_eq_false, xnt, xI_g, eq_self, xI_2, xJ_1, false_and, and_false, obT_t, obS_t, ob6_t, ob2_t, ob0_t, kT1_t, kT2_t, kT3_t, kT4_t, lT1, lT2, rT6, rT7, rT8, rT9, rT1i, rT2i, rS2, kSe_t, lSe, r0_0, r0_1, r0_2, r0_3, r0_4, r0_5, r0_6, r0_7, r0_8, r0_9, r1_i, r2_4, r2_5, r4_4, a1_t, a3_t, a5_t, a6_t, a7_t, a8_t, l1, l3, l5, l6, l7, l8, T1, T2, T3, T4, nI8, nI6, nI160, nI20, nI401, nI49, ob5_t, ob1_t, vp_tn, tn_def, lgc, dX6_beat_0, st_iload_n, dX6_beat_1, st_iconst, dX6_beat_2, st_if_icmp, dX6_beat_5, dX6_beat_6, st_bipush, dX6_beat_8, dX6_beat_11, st_aload_n, dX6_beat_12, dX6_beat_14, st_invokevirtual, dX6_beat_17, st_ireturn, dX6_beat_18, dX6_beat_19, st_getfield, fl_X6_18, dX6_beat_22, dX6_beat_23, dX6_beat_26, c_X6_beat_66, pX6_refuse_e, fX6_refuse_e, Option.toList_some, Option.toList_none, List.cons_append, List.nil_append, c_X6_beat_233, pX4_goBeats_e, fX4_goBeats_e, ofJ_1, ofI_99, ofI_m6, hp1, hp2]
  clear hR
  simp only [hR2, beaX, noX]
  clear hR2
  grind (splits := 40)
theorem rX6_beat : ∀ as σ, pX6_beat as σ → ∃ K as', as = .ref K :: as' ∧ xob WX K 6 := by
  rintro as σ ⟨n, rfl, hpre⟩
  exact ⟨_, _, rfl, by first | exact hpre | exact hpre.1 | exact obT hpre | exact obT hpre.1 | exact obS hpre | exact obS hpre.1 | exact obM | exact ob6 | exact ob2 | exact ob0⟩
def pX6_goes (as : List Value) (σ : xS) : Prop := as = [.ref 0] ∧ (True)
def fX6_goes (as : List Value) (σ : xS) : Option Value × xS := match as with
  | [.ref 0] => (some (.int (goeX σ).1), (goeX σ).2)
  | _ => (none, σ)
theorem pX6_goes_e {σ : xS} : pX6_goes [.ref 0] σ = (True) := propext ⟨fun h => h.2, fun h => ⟨rfl, h⟩⟩
theorem fX6_goes_e  {σ : xS} : fX6_goes [.ref 0] σ = (some (.int (goeX σ).1), (goeX σ).2) := rfl
def calX6_goes : List (Nat × xCall) := [(66, (false, 2, pX6_refuse, fX6_refuse)), (267, (false, 1, pX6_emptyShelvesOfTheGone, fX6_emptyShelvesOfTheGone))]
theorem c_X6_goes_66 : xlk calX6_goes 66 = some (false, 2, pX6_refuse, fX6_refuse) := rfl
theorem c_X6_goes_267 : xlk calX6_goes 267 = some (false, 1, pX6_emptyShelvesOfTheGone, fX6_emptyShelvesOfTheGone) := rfl
set_option maxHeartbeats 4000000 in
set_option maxRecDepth 100000 in
theorem mX6_goes : xMet WX yX6_goes cX6_goes 1 (some .int) 4 pX6_goes fX6_goes := by
  refine xMet_of (fld := xlk fldX6) (cal := xlk calX6_goes) (ks := xlk []) (gs := xlk []) (ro := fun _ => none) 0 (by decide) WX_nd rfl fldX6_ok xKs_nil xGs_nil (Or.inr rfl) (xcal_cons (xCk_V mX6_refuse 6 (by decide) (by decide) (by decide) rfl (fun as σ h _ => rX6_refuse as σ h) w_X6_66 ⟨by decide, by decide, by decide +kernel⟩) (xcal_cons (xCk_V mX6_emptyShelvesOfTheGone 6 (by decide) (by decide) (by decide) rfl (fun as σ h _ => rX6_emptyShelvesOfTheGone as σ h) w_X6_267 ⟨by decide, by decide, by decide +kernel⟩) xcal_nil)) ?_ ?_
  · rintro av σ ⟨rfl, hpre⟩
    exact Nat.le_of_ble_eq_true rfl
  rintro av σ ⟨rfl, hp1⟩ Rt hR
  have hR2 := hR2_g (Rt := Rt) (F := goeX σ) (fun r s' => by rw [hR, fX6_goes_e])
  refine xgo0 23 ?_
  simp (config := {maxSteps := 4000000, implicitDefEqProofs := false}) only [xwp_2, xwp_0, xwp_1, xws_s, xdd_o, xld_0, xld_s, xs1_0, xs1_1, xs1_s, xs2_0, xs2_1, xs2_s, xlg_n, xlg_i, xlg_r, xlg_z, xlg_l, xf4_0, xf4_1, xf4_2, xf4_3, xgo_e, xcmp_eq, xcmp_ne, xcmp_lt, xcmp_ge, xcmp_gt, xcmp_le, xfg_0, xfg_1, xfg_2, xfg_3, xfg_4, xpop_0, xpop_s, xsw_n, xsw_c, xtb_n, xtb_c, xenp_n, xenp_i, xenp_r, xenp_z, xenp_l, xrep_0, xrep_s, Nat.reduceSub, true_and, and_true, cat_i, cat_r, Nat.reduceAdd, Nat.reduceLT, Nat.reduceLeDiff, Nat.reduceEqDiff, xnc, Int.reduceAdd, Int.reduceSub, Int.reduceNeg, Int.reduceLE, Int.reduceLT, Int.reduceToNat, ↓reduceIte, List.length_cons, List.length_nil, xlc0, xlc1, ite_10, i10, i01, i0_2, i0_3, i0_4, i0_6, i0_7, i0_8, i0_49, i0_10, or_true, true_or, or_false, false_or, not_false_eq_true, not_true_eq_false, xnt, xI_g, eq_self, xI_2, xJ_1, false_and, and_false, obT_t, obS_t, ob6_t, ob2_t, ob0_t, kT1_t, kT2_t, kT3_t, kT4_t, lT1, lT2, rT6, rT7, rT8, rT9, rT1i, rT2i, rS2, kSe_t, lSe, r0_0, r0_1, r0_2, r0_3, r0_4, r0_5, r0_6, r0_7, r0_8, r0_9, r1_i, r2_4, r2_5, r4_4, a1_t, a3_t, a5_t, a6_t, a7_t, a8_t, l1, l3, l5, l6, l7, l8, T1, T2, T3, T4, nI8, nI6, nI160, nI20, nI401, nI49, ob5_t, ob1_t, vp_tn, tn_def, lgc, dX6_goes_0, st_aload_n, dX6_goes_1, st_getfield, fl_X6_18, dX6_goes_4, fl_X6_213, dX6_goes_7, st_ifCond, dX6_goes_10, dX6_goes_11, st_bipush, dX6_goes_13, st_invokevirtual, dX6_goes_16, st_ireturn, dX6_goes_17, dX6_goes_18, dX6_goes_21, st_dup, dX6_goes_22, dX6_goes_25, st_iconst, dX6_goes_26, st_isub, dX6_goes_27, st_putfield, dX6_goes_30, dX6_goes_31, dX6_goes_34, dX6_goes_35, dX6_goes_38, dX6_goes_41, c_X6_goes_66, pX6_refuse_e, fX6_refuse_e, Option.toList_some, Option.toList_none, List.cons_append, List.nil_append, c_X6_goes_267, pX6_emptyShelvesOfTheGone_e, fX6_emptyShelvesOfTheGone_e, ofI_m6, ofJ_1, esX_k, hp1]
  clear hR
  simp only [hR2, goeX, noX]
  clear hR2
  grind (splits := 40)
theorem rX6_goes : ∀ as σ, pX6_goes as σ → ∃ K as', as = .ref K :: as' ∧ xob WX K 6 := by
  rintro as σ ⟨rfl, hpre⟩
  exact ⟨_, _, rfl, by first | exact hpre | exact hpre.1 | exact obT hpre | exact obT hpre.1 | exact obS hpre | exact obS hpre.1 | exact obM | exact ob6 | exact ob2 | exact ob0⟩
def pX6_teach (as : List Value) (σ : xS) : Prop := ∃ (x : Int32) (g : Int32), as = [.ref 0, .int x, .int g] ∧ (True)
def fX6_teach (as : List Value) (σ : xS) : Option Value × xS := match as with
  | [.ref 0, .int x, .int g] => (some (.int (teaX σ x g).1), (teaX σ x g).2)
  | _ => (none, σ)
theorem pX6_teach_e {x : Int32} {g : Int32} {σ : xS} : pX6_teach [.ref 0, .int x, .int g] σ = (True) := propext ⟨fun h => by obtain ⟨x, g, e, h⟩ := h; cases e; exact h, fun h => ⟨x, g, rfl, h⟩⟩
theorem fX6_teach_e {x : Int32} {g : Int32} {σ : xS} : fX6_teach [.ref 0, .int x, .int g] σ = (some (.int (teaX σ x g).1), (teaX σ x g).2) := rfl
def calX6_teach : List (Nat × xCall) := [(104, (false, 2, pX4_hasWalker, fX4_hasWalker)), (152, (false, 2, pX4_hasGait, fX4_hasGait)), (66, (false, 2, pX6_refuse, fX6_refuse)), (114, (false, 2, pX4_who, fX4_who))]
theorem c_X6_teach_104 : xlk calX6_teach 104 = some (false, 2, pX4_hasWalker, fX4_hasWalker) := rfl
theorem c_X6_teach_152 : xlk calX6_teach 152 = some (false, 2, pX4_hasGait, fX4_hasGait) := rfl
theorem c_X6_teach_66 : xlk calX6_teach 66 = some (false, 2, pX6_refuse, fX6_refuse) := rfl
theorem c_X6_teach_114 : xlk calX6_teach 114 = some (false, 2, pX4_who, fX4_who) := rfl
set_option maxHeartbeats 4000000 in
set_option maxRecDepth 100000 in
theorem mX6_teach : xMet WX yX6_teach cX6_teach 5 (some .int) 2 pX6_teach fX6_teach := by
  refine xMet_of (fld := xlk fldX6) (cal := xlk calX6_teach) (ks := xlk []) (gs := xlk []) (ro := fun _ => none) 0 (by decide) WX_nd rfl fldX6_ok xKs_nil xGs_nil (Or.inr rfl) (xcal_cons (xCk_V mX4_hasWalker 4 (by decide) (by decide) (by decide) rfl (fun as σ h _ => rX4_hasWalker as σ h) w_X6_104 ⟨by decide, by decide, by decide +kernel⟩) (xcal_cons (xCk_V mX4_hasGait 4 (by decide) (by decide) (by decide) rfl (fun as σ h _ => rX4_hasGait as σ h) w_X6_152 ⟨by decide, by decide, by decide +kernel⟩) (xcal_cons (xCk_V mX6_refuse 6 (by decide) (by decide) (by decide) rfl (fun as σ h _ => rX6_refuse as σ h) w_X6_66 ⟨by decide, by decide, by decide +kernel⟩) (xcal_cons (xCk_V mX4_who 4 (by decide) (by decide) (by decide) rfl (fun as σ h _ => rX4_who as σ h) w_X6_114 ⟨by decide, by decide, by decide +kernel⟩) xcal_nil)))) ?_ ?_
  · rintro av σ ⟨x, g, rfl, hpre⟩
    exact Nat.le_of_ble_eq_true rfl
  rintro av σ ⟨x, g, rfl, hp1⟩ Rt hR
  have hR2 := hR2_g (Rt := Rt) (F := teaX σ x g) (fun r s' => by rw [hR, fX6_teach_e])
  refine xgo0 32 ?_
  simp (config := {maxSteps := 4000000, implicitDefEqProofs := false}) only [xwp_2, xwp_0, xwp_1, xws_s, xdd_o, xld_0, xld_s, xs1_0, xs1_1, xs1_s, xs2_0, xs2_1, xs2_s, xlg_n, xlg_i, xlg_r, xlg_z, xlg_l, xf4_0, xf4_1, xf4_2, xf4_3, xgo_e, xcmp_eq, xcmp_ne, xcmp_lt, xcmp_ge, xcmp_gt, xcmp_le, xfg_0, xfg_1, xfg_2, xfg_3, xfg_4, xpop_0, xpop_s, xsw_n, xsw_c, xtb_n, xtb_c, xenp_n, xenp_i, xenp_r, xenp_z, xenp_l, xrep_0, xrep_s, Nat.reduceSub, true_and, and_true, cat_i, cat_r, Nat.reduceAdd, Nat.reduceLT, Nat.reduceLeDiff, Nat.reduceEqDiff, xnc, Int.reduceAdd, Int.reduceSub, Int.reduceNeg, Int.reduceLE, Int.reduceLT, Int.reduceToNat, ↓reduceIte, List.length_cons, List.length_nil, xlc0, xlc1, ite_10, i10, i01, i0_2, i0_3, i0_4, i0_6, i0_7, i0_8, i0_49, i0_10, or_true, true_or, or_false, false_or, not_false_eq_true, not_true_eq_false, xnt, xI_g, eq_self, xI_2, xJ_1, false_and, and_false, obT_t, obS_t, ob6_t, ob2_t, ob0_t, kT1_t, kT2_t, kT3_t, kT4_t, lT1, lT2, rT6, rT7, rT8, rT9, rT1i, rT2i, rS2, kSe_t, lSe, r0_0, r0_1, r0_2, r0_3, r0_4, r0_5, r0_6, r0_7, r0_8, r0_9, r1_i, r2_4, r2_5, r4_4, a1_t, a3_t, a5_t, a6_t, a7_t, a8_t, l1, l3, l5, l6, l7, l8, T1, T2, T3, T4, nI8, nI6, nI160, nI20, nI401, nI49, ob5_t, ob1_t, vp_tn, tn_def, lgc, dX6_teach_0, st_aload_n, dX6_teach_1, st_getfield, fl_X6_18, dX6_teach_4, st_iload_n, dX6_teach_5, st_invokevirtual, dX6_teach_8, st_ifCond, dX6_teach_11, dX6_teach_12, dX6_teach_15, dX6_teach_16, dX6_teach_19, dX6_teach_22, dX6_teach_23, st_iconst, dX6_teach_24, dX6_teach_27, st_ireturn, dX6_teach_28, dX6_teach_29, dX6_teach_32, dX6_teach_33, dX6_teach_36, st_astore_n, dX6_teach_37, dX6_teach_38, fl_X6_216, dX6_teach_41, st_istore, dX6_teach_43, dX6_teach_44, dX6_teach_45, st_putfield, dX6_teach_48, dX6_teach_49, dX6_teach_50, fl_X6_270, dX6_teach_53, st_iload, dX6_teach_55, c_X6_teach_104, pX4_hasWalker_e, fX4_hasWalker_e, Option.toList_some, Option.toList_none, List.cons_append, List.nil_append, c_X6_teach_152, pX4_hasGait_e, fX4_hasGait_e, c_X6_teach_66, pX6_refuse_e, fX6_refuse_e, c_X6_teach_114, pX4_who_e, fX4_who_e, ofI_m1, ofI_0, hp1]
  clear hR
  simp only [hR2, teaX, noX]
  clear hR2
  grind (splits := 40)
theorem rX6_teach : ∀ as σ, pX6_teach as σ → ∃ K as', as = .ref K :: as' ∧ xob WX K 6 := by
  rintro as σ ⟨x, g, rfl, hpre⟩
  exact ⟨_, _, rfl, by first | exact hpre | exact hpre.1 | exact obT hpre | exact obT hpre.1 | exact obS hpre | exact obS hpre.1 | exact obM | exact ob6 | exact ob2 | exact ob0⟩
def pX6_seed (as : List Value) (σ : xS) : Prop := ∃ (v : Int32), as = [.ref 0, .int v] ∧ (True)
def fX6_seed (as : List Value) (σ : xS) : Option Value × xS := match as with
  | [.ref 0, .int v] => (some (.int (seeX σ v).1), (seeX σ v).2)
  | _ => (none, σ)
theorem pX6_seed_e {v : Int32} {σ : xS} : pX6_seed [.ref 0, .int v] σ = (True) := propext ⟨fun h => by obtain ⟨v, e, h⟩ := h; cases e; exact h, fun h => ⟨v, rfl, h⟩⟩
theorem fX6_seed_e {v : Int32} {σ : xS} : fX6_seed [.ref 0, .int v] σ = (some (.int (seeX σ v).1), (seeX σ v).2) := rfl
def calX6_seed : List (Nat × xCall) := []
set_option maxHeartbeats 4000000 in
set_option maxRecDepth 100000 in
theorem mX6_seed : xMet WX yX6_seed cX6_seed 3 (some .int) 1 pX6_seed fX6_seed := by
  refine xMet_of (fld := xlk fldX6) (cal := xlk calX6_seed) (ks := xlk []) (gs := xlk []) (ro := fun _ => none) 0 (by decide) WX_nd rfl fldX6_ok xKs_nil xGs_nil (Or.inr rfl) xcal_nil ?_ ?_
  · rintro av σ ⟨v, rfl, hpre⟩
    exact Nat.le_of_ble_eq_true rfl
  rintro av σ ⟨v, rfl, hp1⟩ Rt hR
  have hR2 := hR2_g (Rt := Rt) (F := seeX σ v) (fun r s' => by rw [hR, fX6_seed_e])
  refine xgo0 12 ?_
  simp (config := {maxSteps := 4000000, implicitDefEqProofs := false}) only [xwp_2, xwp_0, xwp_1, xws_s, xdd_o, xld_0, xld_s, xs1_0, xs1_1, xs1_s, xs2_0, xs2_1, xs2_s, xlg_n, xlg_i, xlg_r, xlg_z, xlg_l, xf4_0, xf4_1, xf4_2, xf4_3, xgo_e, xcmp_eq, xcmp_ne, xcmp_lt, xcmp_ge, xcmp_gt, xcmp_le, xfg_0, xfg_1, xfg_2, xfg_3, xfg_4, xpop_0, xpop_s, xsw_n, xsw_c, xtb_n, xtb_c, xenp_n, xenp_i, xenp_r, xenp_z, xenp_l, xrep_0, xrep_s, Nat.reduceSub, true_and, and_true, cat_i, cat_r, Nat.reduceAdd, Nat.reduceLT, Nat.reduceLeDiff, Nat.reduceEqDiff, xnc, Int.reduceAdd, Int.reduceSub, Int.reduceNeg, Int.reduceLE, Int.reduceLT, Int.reduceToNat, ↓reduceIte, List.length_cons, List.length_nil, xlc0, xlc1, ite_10, i10, i01, i0_2, i0_3, i0_4, i0_6, i0_7, i0_8, i0_49, i0_10, or_true, true_or, or_false, false_or, not_false_eq_true, not_true_eq_false, xnt, xI_g, eq_self, xI_2, xJ_1, false_and, and_false, obT_t, obS_t, ob6_t, ob2_t, ob0_t, kT1_t, kT2_t, kT3_t, kT4_t, lT1, lT2, rT6, rT7, rT8, rT9, rT1i, rT2i, rS2, kSe_t, lSe, r0_0, r0_1, r0_2, r0_3, r0_4, r0_5, r0_6, r0_7, r0_8, r0_9, r1_i, r2_4, r2_5, r4_4, a1_t, a3_t, a5_t, a6_t, a7_t, a8_t, l1, l3, l5, l6, l7, l8, T1, T2, T3, T4, nI8, nI6, nI160, nI20, nI401, nI49, ob5_t, ob1_t, vp_tn, tn_def, lgc, dX6_seed_0, st_aload_n, dX6_seed_1, st_getfield, fl_X6_18, dX6_seed_4, fl_X6_273, dX6_seed_7, st_istore_n, dX6_seed_8, dX6_seed_9, dX6_seed_12, st_iload_n, dX6_seed_13, st_putfield, dX6_seed_16, dX6_seed_17, st_ireturn, hp1]
  clear hR
  simp only [hR2, seeX]
theorem rX6_seed : ∀ as σ, pX6_seed as σ → ∃ K as', as = .ref K :: as' ∧ xob WX K 6 := by
  rintro as σ ⟨v, rfl, hpre⟩
  exact ⟨_, _, rfl, by first | exact hpre | exact hpre.1 | exact obT hpre | exact obT hpre.1 | exact obS hpre | exact obS hpre.1 | exact obM | exact ob6 | exact ob2 | exact ob0⟩
def pX6_act (as : List Value) (σ : xS) : Prop := ∃ (x : Int32) (a : Int32) (y : Int32), as = [.ref 0, .int x, .int a, .int y] ∧ (True)
def fX6_act (as : List Value) (σ : xS) : Option Value × xS := match as with
  | [.ref 0, .int x, .int a, .int y] => (some (.int (actX σ x a y).1), (actX σ x a y).2)
  | _ => (none, σ)
theorem pX6_act_e {x : Int32} {a : Int32} {y : Int32} {σ : xS} : pX6_act [.ref 0, .int x, .int a, .int y] σ = (True) := propext ⟨fun h => by obtain ⟨x, a, y, e, h⟩ := h; cases e; exact h, fun h => ⟨x, a, y, rfl, h⟩⟩
theorem fX6_act_e {x : Int32} {a : Int32} {y : Int32} {σ : xS} : fX6_act [.ref 0, .int x, .int a, .int y] σ = (some (.int (actX σ x a y).1), (actX σ x a y).2) := rfl
def calX6_act : List (Nat × xCall) := [(276, (false, 1, pX0_forget, fX0_forget)), (104, (false, 2, pX4_hasWalker, fX4_hasWalker)), (110, (true, 2, pX6_isUpTo, fX6_isUpTo)), (114, (false, 2, pX4_who, fX4_who)), (282, (false, 6, pX0_perform, fX0_perform))]
theorem c_X6_act_276 : xlk calX6_act 276 = some (false, 1, pX0_forget, fX0_forget) := rfl
theorem c_X6_act_104 : xlk calX6_act 104 = some (false, 2, pX4_hasWalker, fX4_hasWalker) := rfl
theorem c_X6_act_110 : xlk calX6_act 110 = some (true, 2, pX6_isUpTo, fX6_isUpTo) := rfl
theorem c_X6_act_114 : xlk calX6_act 114 = some (false, 2, pX4_who, fX4_who) := rfl
theorem c_X6_act_282 : xlk calX6_act 282 = some (false, 6, pX0_perform, fX0_perform) := rfl
set_option maxHeartbeats 4000000 in
set_option maxRecDepth 100000 in
theorem mX6_act : xMet WX yX6_act cX6_act 5 (some .int) 26 pX6_act fX6_act := by
  refine xMet_of (fld := xlk fldX6) (cal := xlk calX6_act) (ks := xlk []) (gs := xlk []) (ro := fun _ => none) 0 (by decide) WX_nd rfl fldX6_ok xKs_nil xGs_nil (Or.inr rfl) (xcal_cons (xCk_V mX0_forget 0 (by decide) (by decide) (by decide) rfl (fun as σ h _ => rX0_forget as σ h) w_X6_276 ⟨by decide, by decide, by decide +kernel⟩) (xcal_cons (xCk_V mX4_hasWalker 4 (by decide) (by decide) (by decide) rfl (fun as σ h _ => rX4_hasWalker as σ h) w_X6_104 ⟨by decide, by decide, by decide +kernel⟩) (xcal_cons (xCk_S mX6_isUpTo (by decide) (by decide) w_X6_110 ⟨by decide, by decide, by decide +kernel⟩) (xcal_cons (xCk_V mX4_who 4 (by decide) (by decide) (by decide) rfl (fun as σ h _ => rX4_who as σ h) w_X6_114 ⟨by decide, by decide, by decide +kernel⟩) (xcal_cons (xCk_V mX0_perform 0 (by decide) (by decide) (by decide) rfl (fun as σ h _ => rX0_perform as σ h) w_X6_282 ⟨by decide, by decide, by decide +kernel⟩) xcal_nil))))) ?_ ?_
  · rintro av σ ⟨x, a, y, rfl, hpre⟩
    exact Nat.le_of_ble_eq_true rfl
  rintro av σ ⟨x, a, y, rfl, hp1⟩ Rt hR
  have hR2 := hR2_g (Rt := Rt) (F := actX σ x a y) (fun r s' => by rw [hR, fX6_act_e])
  refine xgo0 32 ?_
  simp (config := {maxSteps := 4000000, implicitDefEqProofs := false}) only [xwp_2, xwp_0, xwp_1, xws_s, xdd_o, xld_0, xld_s, xs1_0, xs1_1, xs1_s, xs2_0, xs2_1, xs2_s, xlg_n, xlg_i, xlg_r, xlg_z, xlg_l, xf4_0, xf4_1, xf4_2, xf4_3, xgo_e, xcmp_eq, xcmp_ne, xcmp_lt, xcmp_ge, xcmp_gt, xcmp_le, xfg_0, xfg_1, xfg_2, xfg_3, xfg_4, xpop_0, xpop_s, xsw_n, xsw_c, xtb_n, xtb_c, xenp_n, xenp_i, xenp_r, xenp_z, xenp_l, xrep_0, xrep_s, Nat.reduceSub, true_and, and_true, cat_i, cat_r, Nat.reduceAdd, Nat.reduceLT, Nat.reduceLeDiff, Nat.reduceEqDiff, xnc, Int.reduceAdd, Int.reduceSub, Int.reduceNeg, Int.reduceLE, Int.reduceLT, Int.reduceToNat, ↓reduceIte, List.length_cons, List.length_nil, xlc0, xlc1, ite_10, i10, i01, i0_2, i0_3, i0_4, i0_6, i0_7, i0_8, i0_49, i0_10, or_true, true_or, or_false, false_or, not_false_eq_true, not_true_eq_false, xnt, xI_g, eq_self, xI_2, xJ_1, false_and, and_false, obT_t, obS_t, ob6_t, ob2_t, ob0_t, kT1_t, kT2_t, kT3_t, kT4_t, lT1, lT2, rT6, rT7, rT8, rT9, rT1i, rT2i, rS2, kSe_t, lSe, r0_0, r0_1, r0_2, r0_3, r0_4, r0_5, r0_6, r0_7, r0_8, r0_9, r1_i, r2_4, r2_5, r4_4, a1_t, a3_t, a5_t, a6_t, a7_t, a8_t, l1, l3, l5, l6, l7, l8, T1, T2, T3, T4, nI8, nI6, nI160, nI20, nI401, nI49, ob5_t, ob1_t, vp_tn, tn_def, lgc, dX6_act_0, st_aload_n, dX6_act_1, st_getfield, fl_X6_38, dX6_act_4, st_invokevirtual, dX6_act_7, dX6_act_8, fl_X6_18, dX6_act_11, st_iload_n, dX6_act_12, dX6_act_15, st_ifCond, dX6_act_18, dX6_act_19, st_iconst, dX6_act_20, st_invokestatic, dX6_act_23, dX6_act_26, dX6_act_27, st_ireturn, dX6_act_28, dX6_act_29, dX6_act_32, dX6_act_33, dX6_act_36, st_astore, dX6_act_38, dX6_act_39, dX6_act_42, st_aload, dX6_act_44, fl_X6_118, dX6_act_47, dX6_act_48, dX6_act_50, fl_X6_279, dX6_act_53, dX6_act_54, dX6_act_55, dX6_act_58, c_X6_act_276, pX0_forget_e, fX0_forget_e, Option.toList_some, Option.toList_none, List.cons_append, List.nil_append, c_X6_act_104, pX4_hasWalker_e, fX4_hasWalker_e, c_X6_act_110, pX6_isUpTo_e, fX6_isUpTo_e, c_X6_act_114, pX4_who_e, fX4_who_e, c_X6_act_282, pX0_perform_e, fX0_perform_e, ofJ_2, ofI_0, whoK_ne, hp1]
  clear hR
  simp only [hR2, actX]
  clear hR2
  grind (splits := 40)
theorem rX6_act : ∀ as σ, pX6_act as σ → ∃ K as', as = .ref K :: as' ∧ xob WX K 6 := by
  rintro as σ ⟨x, a, y, rfl, hpre⟩
  exact ⟨_, _, rfl, by first | exact hpre | exact hpre.1 | exact obT hpre | exact obT hpre.1 | exact obS hpre | exact obS hpre.1 | exact obM | exact ob6 | exact ob2 | exact ob0⟩
def pX6_trace (as : List Value) (σ : xS) : Prop := ∃ (i : Int32), as = [.ref 0, .int i] ∧ (True)
def fX6_trace (as : List Value) (σ : xS) : Option Value × xS := match as with
  | [.ref 0, .int i] => (some (.int (traX σ i)), σ)
  | _ => (none, σ)
theorem pX6_trace_e {i : Int32} {σ : xS} : pX6_trace [.ref 0, .int i] σ = (True) := propext ⟨fun h => by obtain ⟨i, e, h⟩ := h; cases e; exact h, fun h => ⟨i, rfl, h⟩⟩
theorem fX6_trace_e {i : Int32} {σ : xS} : fX6_trace [.ref 0, .int i] σ = (some (.int (traX σ i)), σ) := rfl
def calX6_trace : List (Nat × xCall) := [(285, (false, 2, pX0_bodyAt, fX0_bodyAt))]
theorem c_X6_trace_285 : xlk calX6_trace 285 = some (false, 2, pX0_bodyAt, fX0_bodyAt) := rfl
set_option maxHeartbeats 4000000 in
set_option maxRecDepth 100000 in
theorem mX6_trace : xMet WX yX6_trace cX6_trace 2 (some .int) 2 pX6_trace fX6_trace := by
  refine xMet_of (fld := xlk fldX6) (cal := xlk calX6_trace) (ks := xlk []) (gs := xlk []) (ro := fun _ => none) 0 (by decide) WX_nd rfl fldX6_ok xKs_nil xGs_nil (Or.inr rfl) (xcal_cons (xCk_V mX0_bodyAt 0 (by decide) (by decide) (by decide) rfl (fun as σ h _ => rX0_bodyAt as σ h) w_X6_285 ⟨by decide, by decide, by decide +kernel⟩) xcal_nil) ?_ ?_
  · rintro av σ ⟨i, rfl, hpre⟩
    exact Nat.le_of_ble_eq_true rfl
  rintro av σ ⟨i, rfl, hp1⟩ Rt hR
  refine xgo0 7 ?_
  simp (config := {maxSteps := 2000000, implicitDefEqProofs := false}) only [xwp_2, xwp_0, xwp_1, xws_s, xdd_o, xld_0, xld_s, xs1_0, xs1_1, xs1_s, xs2_0, xs2_1, xs2_s, xlg_n, xlg_i, xlg_r, xlg_z, xlg_l, xf4_0, xf4_1, xf4_2, xf4_3, xgo_e, xcmp_eq, xcmp_ne, xcmp_lt, xcmp_ge, xcmp_gt, xcmp_le, xfg_0, xfg_1, xfg_2, xfg_3, xfg_4, xpop_0, xpop_s, xsw_n, xsw_c, xtb_n, xtb_c, xenp_n, xenp_i, xenp_r, xenp_z, xenp_l, xrep_0, xrep_s, Nat.reduceSub, true_and, and_true, cat_i, cat_r, Nat.reduceAdd, Nat.reduceLT, Nat.reduceLeDiff, Nat.reduceEqDiff, xnc, Int.reduceAdd, Int.reduceSub, Int.reduceNeg, Int.reduceLE, Int.reduceLT, Int.reduceToNat, ↓reduceIte, List.length_cons, List.length_nil, xlc0, xlc1, ite_10, i10, i01, i0_2, i0_3, i0_4, i0_6, i0_7, i0_8, i0_49, i0_10, or_true, true_or, or_false, false_or, not_false_eq_true, not_true_eq_false, xnt, xI_g, eq_self, xI_2, xJ_1, false_and, and_false, obT_t, obS_t, ob6_t, ob2_t, ob0_t, kT1_t, kT2_t, kT3_t, kT4_t, lT1, lT2, rT6, rT7, rT8, rT9, rT1i, rT2i, rS2, kSe_t, lSe, r0_0, r0_1, r0_2, r0_3, r0_4, r0_5, r0_6, r0_7, r0_8, r0_9, r1_i, r2_4, r2_5, r4_4, a1_t, a3_t, a5_t, a6_t, a7_t, a8_t, l1, l3, l5, l6, l7, l8, T1, T2, T3, T4, nI8, nI6, nI160, nI20, nI401, nI49, ob5_t, ob1_t, vp_tn, tn_def, lgc, dX6_trace_0, st_aload_n, dX6_trace_1, st_getfield, fl_X6_38, dX6_trace_4, st_iload_n, dX6_trace_5, st_invokevirtual, dX6_trace_8, st_ireturn, c_X6_trace_285, pX0_bodyAt_e, fX0_bodyAt_e, Option.toList_some, Option.toList_none, List.cons_append, List.nil_append, hp1]
  simp only [hR, fX6_trace_e, traX]
  try grind
theorem rX6_trace : ∀ as σ, pX6_trace as σ → ∃ K as', as = .ref K :: as' ∧ xob WX K 6 := by
  rintro as σ ⟨i, rfl, hpre⟩
  exact ⟨_, _, rfl, by first | exact hpre | exact hpre.1 | exact obT hpre | exact obT hpre.1 | exact obS hpre | exact obS hpre.1 | exact obM | exact ob6 | exact ob2 | exact ob0⟩
def pX6_image (as : List Value) (σ : xS) : Prop := as = [.ref 0] ∧ ((0 ≤ σ.1 100 2) ∧ (σ.1 100 2 ≤ 6) ∧ (σ.1 100 1 ≤ 8))
def fX6_image (as : List Value) (σ : xS) : Option Value × xS := match as with
  | [.ref 0] => (some (.int (imaX σ).1), (imaX σ).2)
  | _ => (none, σ)
theorem pX6_image_e {σ : xS} : pX6_image [.ref 0] σ = ((0 ≤ σ.1 100 2) ∧ (σ.1 100 2 ≤ 6) ∧ (σ.1 100 1 ≤ 8)) := propext ⟨fun h => h.2, fun h => ⟨rfl, h⟩⟩
theorem fX6_image_e  {σ : xS} : fX6_image [.ref 0] σ = (some (.int (imaX σ).1), (imaX σ).2) := rfl
def calX6_image : List (Nat × xCall) := [(200, (false, 2, pX4_becomeAs, fX4_becomeAs))]
theorem c_X6_image_200 : xlk calX6_image 200 = some (false, 2, pX4_becomeAs, fX4_becomeAs) := rfl
set_option maxHeartbeats 4000000 in
set_option maxRecDepth 100000 in
theorem mX6_image : xMet WX yX6_image cX6_image 1 (some .int) 4 pX6_image fX6_image := by
  refine xMet_of (fld := xlk fldX6) (cal := xlk calX6_image) (ks := xlk []) (gs := xlk []) (ro := fun _ => none) 0 (by decide) WX_nd rfl fldX6_ok xKs_nil xGs_nil (Or.inr rfl) (xcal_cons (xCk_V mX4_becomeAs 4 (by decide) (by decide) (by decide) rfl (fun as σ h _ => rX4_becomeAs as σ h) w_X6_200 ⟨by decide, by decide, by decide +kernel⟩) xcal_nil) ?_ ?_
  · rintro av σ ⟨rfl, hpre⟩
    exact Nat.le_of_ble_eq_true rfl
  rintro av σ ⟨rfl, ⟨hp1, hp2, hp3⟩⟩ Rt hR
  have hR2 := hR2_g (Rt := Rt) (F := imaX σ) (fun r s' => by rw [hR, fX6_image_e])
  have q1 := cpT_31 hp2 hp3
  refine xgo0 14 ?_
  simp (config := {maxSteps := 4000000, implicitDefEqProofs := false}) only [xwp_2, xwp_0, xwp_1, xws_s, xdd_o, xld_0, xld_s, xs1_0, xs1_1, xs1_s, xs2_0, xs2_1, xs2_s, xlg_n, xlg_i, xlg_r, xlg_z, xlg_l, xf4_0, xf4_1, xf4_2, xf4_3, xgo_e, xcmp_eq, xcmp_ne, xcmp_lt, xcmp_ge, xcmp_gt, xcmp_le, xfg_0, xfg_1, xfg_2, xfg_3, xfg_4, xpop_0, xpop_s, xsw_n, xsw_c, xtb_n, xtb_c, xenp_n, xenp_i, xenp_r, xenp_z, xenp_l, xrep_0, xrep_s, Nat.reduceSub, true_and, and_true, cat_i, cat_r, Nat.reduceAdd, Nat.reduceLT, Nat.reduceLeDiff, Nat.reduceEqDiff, xnc, Int.reduceAdd, Int.reduceSub, Int.reduceNeg, Int.reduceLE, Int.reduceLT, Int.reduceToNat, ↓reduceIte, List.length_cons, List.length_nil, xlc0, xlc1, ite_10, i10, i01, i0_2, i0_3, i0_4, i0_6, i0_7, i0_8, i0_49, i0_10, or_true, true_or, or_false, false_or, not_false_eq_true, not_true_eq_false, xnt, xI_g, eq_self, xI_2, xJ_1, false_and, and_false, obT_t, obS_t, ob6_t, ob2_t, ob0_t, kT1_t, kT2_t, kT3_t, kT4_t, lT1, lT2, rT6, rT7, rT8, rT9, rT1i, rT2i, rS2, kSe_t, lSe, r0_0, r0_1, r0_2, r0_3, r0_4, r0_5, r0_6, r0_7, r0_8, r0_9, r1_i, r2_4, r2_5, r4_4, a1_t, a3_t, a5_t, a6_t, a7_t, a8_t, l1, l3, l5, l6, l7, l8, T1, T2, T3, T4, nI8, nI6, nI160, nI20, nI401, nI49, ob5_t, ob1_t, vp_tn, tn_def, lgc, dX6_image_0, st_aload_n, dX6_image_1, st_getfield, fl_X6_25, dX6_image_4, dX6_image_5, fl_X6_18, dX6_image_8, st_invokevirtual, dX6_image_11, dX6_image_12, st_iconst, dX6_image_13, st_putfield, fl_X6_53, dX6_image_16, dX6_image_17, dX6_image_20, fl_X6_213, dX6_image_23, st_ireturn, c_X6_image_200, pX4_becomeAs_e, fX4_becomeAs_e, Option.toList_some, Option.toList_none, List.cons_append, List.nil_append, ofJ_1, ne31, hp1, hp2, hp3, ne31, q1]
  clear hR
  simp only [hR2, imaX]
  try grind
theorem rX6_image : ∀ as σ, pX6_image as σ → ∃ K as', as = .ref K :: as' ∧ xob WX K 6 := by
  rintro as σ ⟨rfl, hpre⟩
  exact ⟨_, _, rfl, by first | exact hpre | exact hpre.1 | exact obT hpre | exact obT hpre.1 | exact obS hpre | exact obS hpre.1 | exact obM | exact ob6 | exact ob2 | exact ob0⟩
def pX6_restore (as : List Value) (σ : xS) : Prop := as = [.ref 0] ∧ ((σ.1 300 2 ≤ 6) ∧ (σ.1 300 1 ≤ 8))
def fX6_restore (as : List Value) (σ : xS) : Option Value × xS := match as with
  | [.ref 0] => (some (.int (resX σ).1), (resX σ).2)
  | _ => (none, σ)
theorem pX6_restore_e {σ : xS} : pX6_restore [.ref 0] σ = ((σ.1 300 2 ≤ 6) ∧ (σ.1 300 1 ≤ 8)) := propext ⟨fun h => h.2, fun h => ⟨rfl, h⟩⟩
theorem fX6_restore_e  {σ : xS} : fX6_restore [.ref 0] σ = (some (.int (resX σ).1), (resX σ).2) := rfl
def calX6_restore : List (Nat × xCall) := [(66, (false, 2, pX6_refuse, fX6_refuse)), (200, (false, 2, pX4_becomeAs, fX4_becomeAs)), (267, (false, 1, pX6_emptyShelvesOfTheGone, fX6_emptyShelvesOfTheGone))]
theorem c_X6_restore_66 : xlk calX6_restore 66 = some (false, 2, pX6_refuse, fX6_refuse) := rfl
theorem c_X6_restore_200 : xlk calX6_restore 200 = some (false, 2, pX4_becomeAs, fX4_becomeAs) := rfl
theorem c_X6_restore_267 : xlk calX6_restore 267 = some (false, 1, pX6_emptyShelvesOfTheGone, fX6_emptyShelvesOfTheGone) := rfl
set_option maxHeartbeats 4000000 in
set_option maxRecDepth 100000 in
theorem mX6_restore : xMet WX yX6_restore cX6_restore 1 (some .int) 4 pX6_restore fX6_restore := by
  refine xMet_of (fld := xlk fldX6) (cal := xlk calX6_restore) (ks := xlk []) (gs := xlk []) (ro := fun _ => none) 0 (by decide) WX_nd rfl fldX6_ok xKs_nil xGs_nil (Or.inr rfl) (xcal_cons (xCk_V mX6_refuse 6 (by decide) (by decide) (by decide) rfl (fun as σ h _ => rX6_refuse as σ h) w_X6_66 ⟨by decide, by decide, by decide +kernel⟩) (xcal_cons (xCk_V mX4_becomeAs 4 (by decide) (by decide) (by decide) rfl (fun as σ h _ => rX4_becomeAs as σ h) w_X6_200 ⟨by decide, by decide, by decide +kernel⟩) (xcal_cons (xCk_V mX6_emptyShelvesOfTheGone 6 (by decide) (by decide) (by decide) rfl (fun as σ h _ => rX6_emptyShelvesOfTheGone as σ h) w_X6_267 ⟨by decide, by decide, by decide +kernel⟩) xcal_nil))) ?_ ?_
  · rintro av σ ⟨rfl, hpre⟩
    exact Nat.le_of_ble_eq_true rfl
  rintro av σ ⟨rfl, ⟨hp1, hp2⟩⟩ Rt hR
  have hR2 := hR2_g (Rt := Rt) (F := resX σ) (fun r s' => by rw [hR, fX6_restore_e])
  refine xgo0 20 ?_
  simp (config := {maxSteps := 4000000, implicitDefEqProofs := false}) only [xwp_2, xwp_0, xwp_1, xws_s, xdd_o, xld_0, xld_s, xs1_0, xs1_1, xs1_s, xs2_0, xs2_1, xs2_s, xlg_n, xlg_i, xlg_r, xlg_z, xlg_l, xf4_0, xf4_1, xf4_2, xf4_3, xgo_e, xcmp_eq, xcmp_ne, xcmp_lt, xcmp_ge, xcmp_gt, xcmp_le, xfg_0, xfg_1, xfg_2, xfg_3, xfg_4, xpop_0, xpop_s, xsw_n, xsw_c, xtb_n, xtb_c, xenp_n, xenp_i, xenp_r, xenp_z, xenp_l, xrep_0, xrep_s, Nat.reduceSub, true_and, and_true, cat_i, cat_r, Nat.reduceAdd, Nat.reduceLT, Nat.reduceLeDiff, Nat.reduceEqDiff, xnc, Int.reduceAdd, Int.reduceSub, Int.reduceNeg, Int.reduceLE, Int.reduceLT, Int.reduceToNat, ↓reduceIte, List.length_cons, List.length_nil, xlc0, xlc1, ite_10, i10, i01, i0_2, i0_3, i0_4, i0_6, i0_7, i0_8, i0_49, i0_10, or_true, true_or, or_false, false_or, not_false_eq_true, not_true_eq_false, xnt, xI_g, eq_self, xI_2, xJ_1, false_and, and_false, obT_t, obS_t, ob6_t, ob2_t, ob0_t, kT1_t, kT2_t, kT3_t, kT4_t, lT1, lT2, rT6, rT7, rT8, rT9, rT1i, rT2i, rS2, kSe_t, lSe, r0_0, r0_1, r0_2, r0_3, r0_4, r0_5, r0_6, r0_7, r0_8, r0_9, r1_i, r2_4, r2_5, r4_4, a1_t, a3_t, a5_t, a6_t, a7_t, a8_t, l1, l3, l5, l6, l7, l8, T1, T2, T3, T4, nI8, nI6, nI160, nI20, nI401, nI49, ob5_t, ob1_t, vp_tn, tn_def, lgc, dX6_restore_0, st_aload_n, dX6_restore_1, st_getfield, fl_X6_53, dX6_restore_4, st_ifCond, dX6_restore_7, dX6_restore_8, st_bipush, dX6_restore_10, st_invokevirtual, dX6_restore_13, st_ireturn, dX6_restore_14, dX6_restore_15, fl_X6_18, dX6_restore_18, dX6_restore_19, fl_X6_25, dX6_restore_22, dX6_restore_25, dX6_restore_26, dX6_restore_29, dX6_restore_30, dX6_restore_33, fl_X6_213, dX6_restore_36, c_X6_restore_66, pX6_refuse_e, fX6_refuse_e, Option.toList_some, Option.toList_none, List.cons_append, List.nil_append, c_X6_restore_200, pX4_becomeAs_e, fX4_becomeAs_e, c_X6_restore_267, pX6_emptyShelvesOfTheGone_e, fX6_emptyShelvesOfTheGone_e, ofI_m6, esX_k, cpT_13, ne13, hp1, hp2]
  clear hR
  simp only [hR2, resX, noX]
  clear hR2
  grind (splits := 40)
theorem rX6_restore : ∀ as σ, pX6_restore as σ → ∃ K as', as = .ref K :: as' ∧ xob WX K 6 := by
  rintro as σ ⟨rfl, hpre⟩
  exact ⟨_, _, rfl, by first | exact hpre | exact hpre.1 | exact obT hpre | exact obT hpre.1 | exact obS hpre | exact obS hpre.1 | exact obM | exact ob6 | exact ob2 | exact ob0⟩
theorem sta8 {x : Int32} (h1 : 1 ≤ x) (h2 : x < 8) : 0 ≤ x ∧ tn x < 8 := by
  have h0 : (0 : Int32) ≤ x := Int32.le_trans (by decide) h1
  exact ⟨h0, tn8 ⟨h0, h2⟩⟩
def pX6_status (as : List Value) (σ : xS) : Prop := ∃ (x : Int32), as = [.ref 0, .int x] ∧ (True)
def fX6_status (as : List Value) (σ : xS) : Option Value × xS := match as with
  | [.ref 0, .int x] => (some (.int (staX σ x)), σ)
  | _ => (none, σ)
theorem pX6_status_e {x : Int32} {σ : xS} : pX6_status [.ref 0, .int x] σ = (True) := propext ⟨fun h => by obtain ⟨x, e, h⟩ := h; cases e; exact h, fun h => ⟨x, rfl, h⟩⟩
theorem fX6_status_e {x : Int32} {σ : xS} : fX6_status [.ref 0, .int x] σ = (some (.int (staX σ x)), σ) := rfl
def calX6_status : List (Nat × xCall) := [(292, (true, 1, pJ13_bitCount_95d88, fJ13_bitCount_95d88))]
theorem c_X6_status_292 : xlk calX6_status 292 = some (true, 1, pJ13_bitCount_95d88, fJ13_bitCount_95d88) := rfl
set_option maxHeartbeats 4000000 in
set_option maxRecDepth 100000 in
theorem mX6_status : xMet WX yX6_status cX6_status 3 (some .int) 2 pX6_status fX6_status := by
  refine xMet_of (fld := xlk fldX6) (cal := xlk calX6_status) (ks := xlk []) (gs := xlk []) (ro := fun _ => none) 0 (by decide) WX_nd rfl fldX6_ok xKs_nil xGs_nil (Or.inr rfl) (xcal_cons (xCk_S mJ13_bitCount_95d88 (by decide) (by decide) w_X6_292 ⟨by decide, by decide, by decide +kernel⟩) xcal_nil) ?_ ?_
  · rintro av σ ⟨x, rfl, hpre⟩
    exact Nat.le_of_ble_eq_true rfl
  rintro av σ ⟨x, rfl, hp1⟩ Rt hR
  refine xgo0 52 ?_
  simp (config := {maxSteps := 2000000, implicitDefEqProofs := false}) only [xwp_2, xwp_0, xwp_1, xws_s, xdd_o, xld_0, xld_s, xs1_0, xs1_1, xs1_s, xs2_0, xs2_1, xs2_s, xlg_n, xlg_i, xlg_r, xlg_z, xlg_l, xf4_0, xf4_1, xf4_2, xf4_3, xgo_e, xcmp_eq, xcmp_ne, xcmp_lt, xcmp_ge, xcmp_gt, xcmp_le, xfg_0, xfg_1, xfg_2, xfg_3, xfg_4, xpop_0, xpop_s, xsw_n, xsw_c, xtb_n, xtb_c, xenp_n, xenp_i, xenp_r, xenp_z, xenp_l, xrep_0, xrep_s, Nat.reduceSub, true_and, and_true, cat_i, cat_r, Nat.reduceAdd, Nat.reduceLT, Nat.reduceLeDiff, Nat.reduceEqDiff, xnc, Int.reduceAdd, Int.reduceSub, Int.reduceNeg, Int.reduceLE, Int.reduceLT, Int.reduceToNat, ↓reduceIte, List.length_cons, List.length_nil, xlc0, xlc1, ite_10, i10, i01, i0_2, i0_3, i0_4, i0_6, i0_7, i0_8, i0_49, i0_10, or_true, true_or, or_false, false_or, not_false_eq_true, not_true_eq_false, xnt, xI_g, eq_self, xI_2, xJ_1, false_and, and_false, obT_t, obS_t, ob6_t, ob2_t, ob0_t, kT1_t, kT2_t, kT3_t, kT4_t, lT1, lT2, rT6, rT7, rT8, rT9, rT1i, rT2i, rS2, kSe_t, lSe, r0_0, r0_1, r0_2, r0_3, r0_4, r0_5, r0_6, r0_7, r0_8, r0_9, r1_i, r2_4, r2_5, r4_4, a1_t, a3_t, a5_t, a6_t, a7_t, a8_t, l1, l3, l5, l6, l7, l8, T1, T2, T3, T4, nI8, nI6, nI160, nI20, nI401, nI49, ob5_t, ob1_t, vp_tn, tn_def, lgc, dX6_status_0, st_iload_n, dX6_status_1, st_bipush, dX6_status_3, st_isub, dX6_status_4, st_istore_n, dX6_status_5, dX6_status_6, st_iconst, dX6_status_7, st_if_icmp, dX6_status_10, dX6_status_11, st_aload_n, dX6_status_12, st_getfield, fl_X6_42, dX6_status_15, st_arraylength, dX6_status_16, dX6_status_19, dX6_status_20, dX6_status_23, dX6_status_24, st_iaload, dX6_status_25, st_ireturn, dX6_status_26, dX6_status_27, st_tableswitch, dX6_status_68, dX6_status_69, fl_X6_18, dX6_status_72, fl_X6_255, dX6_status_75, dX6_status_76, dX6_status_77, dX6_status_80, fl_X6_213, dX6_status_83, dX6_status_84, dX6_status_85, dX6_status_88, fl_X6_288, dX6_status_91, st_invokestatic, dX6_status_94, dX6_status_95, dX6_status_96, dX6_status_99, fl_X6_298, dX6_status_102, dX6_status_103, dX6_status_104, dX6_status_107, fl_X6_301, dX6_status_110, dX6_status_111, dX6_status_112, dX6_status_115, fl_X6_273, dX6_status_118, dX6_status_119, dX6_status_120, fl_X6_38, dX6_status_123, fl_X6_304, dX6_status_126, dX6_status_127, dX6_status_128, c_X6_status_292, pJ13_bitCount_95d88_e, fJ13_bitCount_95d88_e, Option.toList_some, Option.toList_none, List.cons_append, List.nil_append, ofI_10, ofJ_1, ofI_m2, ofI_m1, ofI_0, ofJ_2, ofJ_3, ofI_4, ofI_5, ofI_6, ofI_7, ofI_8, ofI_9, ofI_11, hp1]
  have h8 : 1 ≤ x - 10 → x - 10 < 8 → 0 ≤ x - 10 ∧ tn (x - 10) < 8 := sta8
  have sx : staX σ x = if 1 ≤ x - 10 ∧ x - 10 < 8 then σ.1 6 (tn (x - 10)) else if x = 0 then σ.1 100 1 else if x = 1 then σ.1 100 2 else if x = 2 then bc64 (σ.2 100 0) else if x = 3 then σ.1 100 3 else if x = 4 then σ.1 100 4 else if x = 5 then σ.1 100 5 else if x = 6 then σ.1 4 0 else -1 := rfl
  simp only [hR, fX6_status_e]
  clear hR
  generalize x - 10 = y at *
  grind (splits := 40)
theorem rX6_status : ∀ as σ, pX6_status as σ → ∃ K as', as = .ref K :: as' ∧ xob WX K 6 := by
  rintro as σ ⟨x, rfl, hpre⟩
  exact ⟨_, _, rfl, by first | exact hpre | exact hpre.1 | exact obT hpre | exact obT hpre.1 | exact obS hpre | exact obS hpre.1 | exact obM | exact ob6 | exact ob2 | exact ob0⟩
def thiX (σ : xS) (g n : Int32) : Int32 × xS := if ¬ (0 ≤ g ∧ g < σ.1 100 1) then noX σ (-1) else if xfirst (fun i => decide (σ.1 (120 + i) 3 = g)) (tn (σ.1 100 2)) = -1 then noX σ (-5) else if ¬ (0 ≤ n ∧ n ≤ 400) then noX σ (-6) else ((thX σ n).1 (whoK 200 (xfirst (fun i => decide (σ.1 (120 + i) 3 = g)) (tn (σ.1 100 2)))) 1, thX σ n)
def sgOK (σ : xS) (K : Nat) (n : Int32) : Prop := ∀ i, i < tn n → nmA σ K (3 * nI i) ≤ 400
theorem pX6_seen_n {K : Nat} {n : Int32} {σ : xS} : pX6_seen [.ref 0, .ref K, .int n] σ = (xSh K ∧ 0 ≤ n ∧ n ≤ 10 ∧ sgOK σ K n ∧ 0 ≤ σ.1 200 2 ∧ σ.1 200 2 ≤ 6) := pX6_seen_e
theorem nmA_F {σ τ : xS} {K : Nat} {i : Int32} (h : FR σ τ) (hK : xSh K) : nmA τ K i = nmA σ K i := by
  have h1 := hK.1
  have h2 := hK.2
  unfold nmA
  rw [h.1 K 1 (by omega), h.2 (K + 10) (tn i) (by omega) (by omega) (by omega)]
theorem wns_0 {σ : xS} {K : Nat} {n : Int32} (h : wns σ K n = 0) : (0 ≤ n ∧ n ≤ 10) ∧ ∀ i, i < tn n → sgB σ K i = false := by
  unfold wns at h
  by_cases h1 : n < 0
  · rw [if_pos h1] at h; exact absurd h (by decide)
  rw [if_neg h1] at h
  by_cases h2 : σ.1 K 1 / 3 < n
  · rw [if_pos h2] at h; exact absurd h (by decide)
  rw [if_neg h2] at h
  by_cases h3 : 10 < n
  · rw [if_pos h3] at h; exact absurd h (by decide)
  rw [if_neg h3] at h
  refine ⟨⟨Int32.not_lt.mp h1, Int32.not_lt.mp h3⟩, fun i hi => ?_⟩
  cases e : sgB σ K i with
  | false => rfl
  | true =>
    rw [if_pos (xany_t hi e)] at h
    exact absurd h (by decide)
theorem sgOK_F {σ τ : xS} {K : Nat} {n : Int32} (hF : FR σ τ) (hK : xSh K) (h : wns σ K n = 0) : sgOK τ K n := by
  intro i hi
  rw [nmA_F hF hK]
  have := (wns_0 h).2 i hi
  unfold sgB at this
  have t := of_decide_eq_false this
  exact (Classical.not_not.mp (fun q => t (Or.inl q))).2
def fitX (σ : xS) (s n : Int32) : Int32 × xS := if 0 ≤ s ∧ s < 8 then (if wnr σ (10 + tn s) = 0 then (if wns σ (10 + tn s) n = 0 then (snV (thX σ 0) (10 + tn s) n, snS (thX σ 0) (10 + tn s) n) else noX σ (wns σ (10 + tn s) n)) else noX σ (wnr σ (10 + tn s))) else noX σ (-1)
def pX6_thief (as : List Value) (σ : xS) : Prop := ∃ (g : Int32) (n : Int32), as = [.ref 0, .int g, .int n] ∧ ((0 ≤ σ.1 100 2) ∧ (σ.1 100 2 ≤ 6) ∧ (σ.1 100 1 ≤ 8))
def fX6_thief (as : List Value) (σ : xS) : Option Value × xS := match as with
  | [.ref 0, .int g, .int n] => (some (.int (thiX σ g n).1), (thiX σ g n).2)
  | _ => (none, σ)
theorem pX6_thief_e {g : Int32} {n : Int32} {σ : xS} : pX6_thief [.ref 0, .int g, .int n] σ = ((0 ≤ σ.1 100 2) ∧ (σ.1 100 2 ≤ 6) ∧ (σ.1 100 1 ≤ 8)) := propext ⟨fun h => by obtain ⟨g, n, e, h⟩ := h; cases e; exact h, fun h => ⟨g, n, rfl, h⟩⟩
theorem fX6_thief_e {g : Int32} {n : Int32} {σ : xS} : fX6_thief [.ref 0, .int g, .int n] σ = (some (.int (thiX σ g n).1), (thiX σ g n).2) := rfl
def calX6_thief : List (Nat × xCall) := [(152, (false, 2, pX4_hasGait, fX4_hasGait)), (66, (false, 2, pX6_refuse, fX6_refuse)), (261, (false, 2, pX4_firstWith, fX4_firstWith)), (110, (true, 2, pX6_isUpTo, fX6_isUpTo)), (207, (false, 2, pX6_think, fX6_think)), (114, (false, 2, pX4_who, fX4_who))]
theorem c_X6_thief_152 : xlk calX6_thief 152 = some (false, 2, pX4_hasGait, fX4_hasGait) := rfl
theorem c_X6_thief_66 : xlk calX6_thief 66 = some (false, 2, pX6_refuse, fX6_refuse) := rfl
theorem c_X6_thief_261 : xlk calX6_thief 261 = some (false, 2, pX4_firstWith, fX4_firstWith) := rfl
theorem c_X6_thief_110 : xlk calX6_thief 110 = some (true, 2, pX6_isUpTo, fX6_isUpTo) := rfl
theorem c_X6_thief_207 : xlk calX6_thief 207 = some (false, 2, pX6_think, fX6_think) := rfl
theorem c_X6_thief_114 : xlk calX6_thief 114 = some (false, 2, pX4_who, fX4_who) := rfl
set_option maxHeartbeats 4000000 in
set_option maxRecDepth 100000 in
theorem mX6_thief : xMet WX yX6_thief cX6_thief 4 (some .int) 7 pX6_thief fX6_thief := by
  refine xMet_of (fld := xlk fldX6) (cal := xlk calX6_thief) (ks := xlk []) (gs := xlk []) (ro := fun _ => none) 0 (by decide) WX_nd rfl fldX6_ok xKs_nil xGs_nil (Or.inr rfl) (xcal_cons (xCk_V mX4_hasGait 4 (by decide) (by decide) (by decide) rfl (fun as σ h _ => rX4_hasGait as σ h) w_X6_152 ⟨by decide, by decide, by decide +kernel⟩) (xcal_cons (xCk_V mX6_refuse 6 (by decide) (by decide) (by decide) rfl (fun as σ h _ => rX6_refuse as σ h) w_X6_66 ⟨by decide, by decide, by decide +kernel⟩) (xcal_cons (xCk_V mX4_firstWith 4 (by decide) (by decide) (by decide) rfl (fun as σ h _ => rX4_firstWith as σ h) w_X6_261 ⟨by decide, by decide, by decide +kernel⟩) (xcal_cons (xCk_S mX6_isUpTo (by decide) (by decide) w_X6_110 ⟨by decide, by decide, by decide +kernel⟩) (xcal_cons (xCk_V mX6_think 6 (by decide) (by decide) (by decide) rfl (fun as σ h _ => rX6_think as σ h) w_X6_207 ⟨by decide, by decide, by decide +kernel⟩) (xcal_cons (xCk_V mX4_who 4 (by decide) (by decide) (by decide) rfl (fun as σ h _ => rX4_who as σ h) w_X6_114 ⟨by decide, by decide, by decide +kernel⟩) xcal_nil)))))) ?_ ?_
  · rintro av σ ⟨g, n, rfl, hpre⟩
    exact Nat.le_of_ble_eq_true rfl
  rintro av σ ⟨g, n, rfl, ⟨hp1, hp2, hp3⟩⟩ Rt hR
  have hR2 := hR2_g (Rt := Rt) (F := thiX σ g n) (fun r s' => by rw [hR, fX6_thief_e])
  refine xgo0 41 ?_
  simp (config := {maxSteps := 4000000, implicitDefEqProofs := false}) only [xwp_2, xwp_0, xwp_1, xws_s, xdd_o, xld_0, xld_s, xs1_0, xs1_1, xs1_s, xs2_0, xs2_1, xs2_s, xlg_n, xlg_i, xlg_r, xlg_z, xlg_l, xf4_0, xf4_1, xf4_2, xf4_3, xgo_e, xcmp_eq, xcmp_ne, xcmp_lt, xcmp_ge, xcmp_gt, xcmp_le, xfg_0, xfg_1, xfg_2, xfg_3, xfg_4, xpop_0, xpop_s, xsw_n, xsw_c, xtb_n, xtb_c, xenp_n, xenp_i, xenp_r, xenp_z, xenp_l, xrep_0, xrep_s, Nat.reduceSub, true_and, and_true, cat_i, cat_r, Nat.reduceAdd, Nat.reduceLT, Nat.reduceLeDiff, Nat.reduceEqDiff, xnc, Int.reduceAdd, Int.reduceSub, Int.reduceNeg, Int.reduceLE, Int.reduceLT, Int.reduceToNat, ↓reduceIte, List.length_cons, List.length_nil, xlc0, xlc1, ite_10, i10, i01, i0_2, i0_3, i0_4, i0_6, i0_7, i0_8, i0_49, i0_10, or_true, true_or, or_false, false_or, not_false_eq_true, not_true_eq_false, xnt, xI_g, eq_self, xI_2, xJ_1, false_and, and_false, obT_t, obS_t, ob6_t, ob2_t, ob0_t, kT1_t, kT2_t, kT3_t, kT4_t, lT1, lT2, rT6, rT7, rT8, rT9, rT1i, rT2i, rS2, kSe_t, lSe, r0_0, r0_1, r0_2, r0_3, r0_4, r0_5, r0_6, r0_7, r0_8, r0_9, r1_i, r2_4, r2_5, r4_4, a1_t, a3_t, a5_t, a6_t, a7_t, a8_t, l1, l3, l5, l6, l7, l8, T1, T2, T3, T4, nI8, nI6, nI160, nI20, nI401, nI49, ob5_t, ob1_t, vp_tn, tn_def, lgc, dX6_thief_0, st_aload_n, dX6_thief_1, st_getfield, fl_X6_18, dX6_thief_4, st_iload_n, dX6_thief_5, st_invokevirtual, dX6_thief_8, st_ifCond, dX6_thief_11, dX6_thief_12, st_iconst, dX6_thief_13, dX6_thief_16, st_ireturn, dX6_thief_17, dX6_thief_18, dX6_thief_21, dX6_thief_22, dX6_thief_25, st_istore_n, dX6_thief_26, dX6_thief_27, dX6_thief_28, st_if_icmp, dX6_thief_31, dX6_thief_32, st_bipush, dX6_thief_34, dX6_thief_37, dX6_thief_38, dX6_thief_39, st_sipush, dX6_thief_42, st_invokestatic, dX6_thief_45, dX6_thief_48, dX6_thief_49, dX6_thief_51, dX6_thief_54, dX6_thief_55, dX6_thief_56, dX6_thief_57, dX6_thief_60, st_pop, dX6_thief_61, dX6_thief_62, fl_X6_22, dX6_thief_65, dX6_thief_66, dX6_thief_69, fl_X6_223, dX6_thief_72, c_X6_thief_152, pX4_hasGait_e, fX4_hasGait_e, Option.toList_some, Option.toList_none, List.cons_append, List.nil_append, c_X6_thief_66, pX6_refuse_e, fX6_refuse_e, c_X6_thief_261, pX4_firstWith_e, fX4_firstWith_e, c_X6_thief_110, pX6_isUpTo_e, fX6_isUpTo_e, c_X6_thief_207, pX6_think_e, fX6_think_e, c_X6_thief_114, pX4_who_e, fX4_who_e, ofI_m1, ofI_m5, ofI_400, ofI_m6, hp1, hp2, hp3]
  clear hR
  simp only [hR2, thiX, noX]
  clear hR2
  grind (splits := 40)
theorem rX6_thief : ∀ as σ, pX6_thief as σ → ∃ K as', as = .ref K :: as' ∧ xob WX K 6 := by
  rintro as σ ⟨g, n, rfl, hpre⟩
  exact ⟨_, _, rfl, by first | exact hpre | exact hpre.1 | exact obT hpre | exact obT hpre.1 | exact obS hpre | exact obS hpre.1 | exact obM | exact ob6 | exact ob2 | exact ob0⟩
def pX6_fit (as : List Value) (σ : xS) : Prop := ∃ (s : Int32) (n : Int32), as = [.ref 0, .int s, .int n] ∧ ((0 ≤ σ.1 100 2) ∧ (σ.1 100 2 ≤ 6) ∧ (σ.1 100 1 ≤ 8))
def fX6_fit (as : List Value) (σ : xS) : Option Value × xS := match as with
  | [.ref 0, .int s, .int n] => (some (.int (fitX σ s n).1), (fitX σ s n).2)
  | _ => (none, σ)
theorem pX6_fit_e {s : Int32} {n : Int32} {σ : xS} : pX6_fit [.ref 0, .int s, .int n] σ = ((0 ≤ σ.1 100 2) ∧ (σ.1 100 2 ≤ 6) ∧ (σ.1 100 1 ≤ 8)) := propext ⟨fun h => by obtain ⟨s, n, e, h⟩ := h; cases e; exact h, fun h => ⟨s, n, rfl, h⟩⟩
theorem fX6_fit_e {s : Int32} {n : Int32} {σ : xS} : fX6_fit [.ref 0, .int s, .int n] σ = (some (.int (fitX σ s n).1), (fitX σ s n).2) := rfl
def calX6_fit : List (Nat × xCall) := [(62, (false, 2, pX6_shelfBy, fX6_shelfBy)), (74, (true, 1, pX6_whyNoRow, fX6_whyNoRow)), (66, (false, 2, pX6_refuse, fX6_refuse)), (248, (false, 3, pX6_whyNoSights, fX6_whyNoSights)), (207, (false, 2, pX6_think, fX6_think)), (252, (false, 3, pX6_seen, fX6_seen))]
theorem c_X6_fit_62 : xlk calX6_fit 62 = some (false, 2, pX6_shelfBy, fX6_shelfBy) := rfl
theorem c_X6_fit_74 : xlk calX6_fit 74 = some (true, 1, pX6_whyNoRow, fX6_whyNoRow) := rfl
theorem c_X6_fit_66 : xlk calX6_fit 66 = some (false, 2, pX6_refuse, fX6_refuse) := rfl
theorem c_X6_fit_248 : xlk calX6_fit 248 = some (false, 3, pX6_whyNoSights, fX6_whyNoSights) := rfl
theorem c_X6_fit_207 : xlk calX6_fit 207 = some (false, 2, pX6_think, fX6_think) := rfl
theorem c_X6_fit_252 : xlk calX6_fit 252 = some (false, 3, pX6_seen, fX6_seen) := rfl
set_option maxHeartbeats 4000000 in
set_option maxRecDepth 100000 in
theorem mX6_fit : xMet WX yX6_fit cX6_fit 6 (some .int) 7 pX6_fit fX6_fit := by
  refine xMet_of (fld := xlk fldX6) (cal := xlk calX6_fit) (ks := xlk []) (gs := xlk []) (ro := fun _ => none) 0 (by decide) WX_nd rfl fldX6_ok xKs_nil xGs_nil (Or.inr rfl) (xcal_cons (xCk_V mX6_shelfBy 6 (by decide) (by decide) (by decide) rfl (fun as σ h _ => rX6_shelfBy as σ h) w_X6_62 ⟨by decide, by decide, by decide +kernel⟩) (xcal_cons (xCk_S mX6_whyNoRow (by decide) (by decide) w_X6_74 ⟨by decide, by decide, by decide +kernel⟩) (xcal_cons (xCk_V mX6_refuse 6 (by decide) (by decide) (by decide) rfl (fun as σ h _ => rX6_refuse as σ h) w_X6_66 ⟨by decide, by decide, by decide +kernel⟩) (xcal_cons (xCk_V mX6_whyNoSights 6 (by decide) (by decide) (by decide) rfl (fun as σ h _ => rX6_whyNoSights as σ h) w_X6_248 ⟨by decide, by decide, by decide +kernel⟩) (xcal_cons (xCk_V mX6_think 6 (by decide) (by decide) (by decide) rfl (fun as σ h _ => rX6_think as σ h) w_X6_207 ⟨by decide, by decide, by decide +kernel⟩) (xcal_cons (xCk_V mX6_seen 6 (by decide) (by decide) (by decide) rfl (fun as σ h _ => rX6_seen as σ h) w_X6_252 ⟨by decide, by decide, by decide +kernel⟩) xcal_nil)))))) ?_ ?_
  · rintro av σ ⟨s, n, rfl, hpre⟩
    exact Nat.le_of_ble_eq_true rfl
  rintro av σ ⟨s, n, rfl, ⟨hp1, hp2, hp3⟩⟩ Rt hR
  have hR2 := hR2_g (Rt := Rt) (F := fitX σ s n) (fun r s' => by rw [hR, fX6_fit_e])
  by_cases h : 0 ≤ s ∧ s < 8
  · have hSs : xSh (10 + tn s) := sh8 h
    by_cases hw : wns σ (10 + tn s) n = 0
    · have hF := FR_th (xwk6 hp2) (xwk8 hp3) (0 : Int32)
      have q1 := (wns_0 hw).1.1
      have q2 := (wns_0 hw).1.2
      have q3 := sgOK_F hF hSs hw
      refine xgo0 37 ?_
      simp (config := {maxSteps := 4000000, implicitDefEqProofs := false}) only [xwp_2, xwp_0, xwp_1, xws_s, xdd_o, xld_0, xld_s, xs1_0, xs1_1, xs1_s, xs2_0, xs2_1, xs2_s, xlg_n, xlg_i, xlg_r, xlg_z, xlg_l, xf4_0, xf4_1, xf4_2, xf4_3, xgo_e, xcmp_eq, xcmp_ne, xcmp_lt, xcmp_ge, xcmp_gt, xcmp_le, xfg_0, xfg_1, xfg_2, xfg_3, xfg_4, xpop_0, xpop_s, xsw_n, xsw_c, xtb_n, xtb_c, xenp_n, xenp_i, xenp_r, xenp_z, xenp_l, xrep_0, xrep_s, Nat.reduceSub, true_and, and_true, cat_i, cat_r, Nat.reduceAdd, Nat.reduceLT, Nat.reduceLeDiff, Nat.reduceEqDiff, xnc, Int.reduceAdd, Int.reduceSub, Int.reduceNeg, Int.reduceLE, Int.reduceLT, Int.reduceToNat, ↓reduceIte, List.length_cons, List.length_nil, xlc0, xlc1, ite_10, i10, i01, i0_2, i0_3, i0_4, i0_6, i0_7, i0_8, i0_49, i0_10, or_true, true_or, or_false, false_or, not_false_eq_true, not_true_eq_false, xnt, xI_g, eq_self, xI_2, xJ_1, false_and, and_false, obT_t, obS_t, ob6_t, ob2_t, ob0_t, kT1_t, kT2_t, kT3_t, kT4_t, lT1, lT2, rT6, rT7, rT8, rT9, rT1i, rT2i, rS2, kSe_t, lSe, r0_0, r0_1, r0_2, r0_3, r0_4, r0_5, r0_6, r0_7, r0_8, r0_9, r1_i, r2_4, r2_5, r4_4, a1_t, a3_t, a5_t, a6_t, a7_t, a8_t, l1, l3, l5, l6, l7, l8, T1, T2, T3, T4, nI8, nI6, nI160, nI20, nI401, nI49, ob5_t, ob1_t, vp_tn, tn_def, lgc, dX6_fit_0, st_aload_n, dX6_fit_1, st_iload_n, dX6_fit_2, st_invokevirtual, dX6_fit_5, st_astore_n, dX6_fit_6, dX6_fit_7, st_invokestatic, dX6_fit_10, st_istore, dX6_fit_12, dX6_fit_13, st_ifnull, dX6_fit_16, st_iload, dX6_fit_18, st_ifCond, dX6_fit_21, dX6_fit_22, dX6_fit_24, dX6_fit_27, st_ireturn, dX6_fit_28, dX6_fit_29, dX6_fit_30, dX6_fit_31, dX6_fit_34, dX6_fit_36, dX6_fit_38, dX6_fit_41, dX6_fit_42, dX6_fit_44, dX6_fit_47, dX6_fit_48, dX6_fit_49, st_iconst, dX6_fit_50, dX6_fit_53, st_pop, dX6_fit_54, dX6_fit_55, dX6_fit_56, dX6_fit_57, dX6_fit_60, c_X6_fit_62, pX6_shelfBy_e, fX6_shelfBy_e, Option.toList_some, Option.toList_none, List.cons_append, List.nil_append, c_X6_fit_74, pwnr_r, fwnr_r, c_X6_fit_66, pX6_refuse_e, fX6_refuse_e, c_X6_fit_248, pX6_whyNoSights_e, fX6_whyNoSights_e, c_X6_fit_207, pX6_think_e, fX6_think_e, c_X6_fit_252, pX6_seen_n, fX6_seen_e, ofI_0, hp1, hp2, hp3, h, hSs, hw, q1, q2, q3, thX_k]
      clear hR
      simp only [hR2, fitX, noX]
      clear hR2
      grind (splits := 40)
    · refine xgo0 37 ?_
      simp (config := {maxSteps := 4000000, implicitDefEqProofs := false}) only [xwp_2, xwp_0, xwp_1, xws_s, xdd_o, xld_0, xld_s, xs1_0, xs1_1, xs1_s, xs2_0, xs2_1, xs2_s, xlg_n, xlg_i, xlg_r, xlg_z, xlg_l, xf4_0, xf4_1, xf4_2, xf4_3, xgo_e, xcmp_eq, xcmp_ne, xcmp_lt, xcmp_ge, xcmp_gt, xcmp_le, xfg_0, xfg_1, xfg_2, xfg_3, xfg_4, xpop_0, xpop_s, xsw_n, xsw_c, xtb_n, xtb_c, xenp_n, xenp_i, xenp_r, xenp_z, xenp_l, xrep_0, xrep_s, Nat.reduceSub, true_and, and_true, cat_i, cat_r, Nat.reduceAdd, Nat.reduceLT, Nat.reduceLeDiff, Nat.reduceEqDiff, xnc, Int.reduceAdd, Int.reduceSub, Int.reduceNeg, Int.reduceLE, Int.reduceLT, Int.reduceToNat, ↓reduceIte, List.length_cons, List.length_nil, xlc0, xlc1, ite_10, i10, i01, i0_2, i0_3, i0_4, i0_6, i0_7, i0_8, i0_49, i0_10, or_true, true_or, or_false, false_or, not_false_eq_true, not_true_eq_false, xnt, xI_g, eq_self, xI_2, xJ_1, false_and, and_false, obT_t, obS_t, ob6_t, ob2_t, ob0_t, kT1_t, kT2_t, kT3_t, kT4_t, lT1, lT2, rT6, rT7, rT8, rT9, rT1i, rT2i, rS2, kSe_t, lSe, r0_0, r0_1, r0_2, r0_3, r0_4, r0_5, r0_6, r0_7, r0_8, r0_9, r1_i, r2_4, r2_5, r4_4, a1_t, a3_t, a5_t, a6_t, a7_t, a8_t, l1, l3, l5, l6, l7, l8, T1, T2, T3, T4, nI8, nI6, nI160, nI20, nI401, nI49, ob5_t, ob1_t, vp_tn, tn_def, lgc, dX6_fit_0, st_aload_n, dX6_fit_1, st_iload_n, dX6_fit_2, st_invokevirtual, dX6_fit_5, st_astore_n, dX6_fit_6, dX6_fit_7, st_invokestatic, dX6_fit_10, st_istore, dX6_fit_12, dX6_fit_13, st_ifnull, dX6_fit_16, st_iload, dX6_fit_18, st_ifCond, dX6_fit_21, dX6_fit_22, dX6_fit_24, dX6_fit_27, st_ireturn, dX6_fit_28, dX6_fit_29, dX6_fit_30, dX6_fit_31, dX6_fit_34, dX6_fit_36, dX6_fit_38, dX6_fit_41, dX6_fit_42, dX6_fit_44, dX6_fit_47, dX6_fit_48, dX6_fit_49, st_iconst, dX6_fit_50, dX6_fit_53, st_pop, dX6_fit_54, dX6_fit_55, dX6_fit_56, dX6_fit_57, dX6_fit_60, c_X6_fit_62, pX6_shelfBy_e, fX6_shelfBy_e, Option.toList_some, Option.toList_none, List.cons_append, List.nil_append, c_X6_fit_74, pwnr_r, fwnr_r, c_X6_fit_66, pX6_refuse_e, fX6_refuse_e, c_X6_fit_248, pX6_whyNoSights_e, fX6_whyNoSights_e, c_X6_fit_207, pX6_think_e, fX6_think_e, c_X6_fit_252, pX6_seen_n, fX6_seen_e, ofI_0, hp1, hp2, hp3, h, hSs, hw]
      clear hR
      simp only [hR2, fitX, noX]
      clear hR2
      grind (splits := 40)
  · refine xgo0 37 ?_
    simp (config := {maxSteps := 4000000, implicitDefEqProofs := false}) only [xwp_2, xwp_0, xwp_1, xws_s, xdd_o, xld_0, xld_s, xs1_0, xs1_1, xs1_s, xs2_0, xs2_1, xs2_s, xlg_n, xlg_i, xlg_r, xlg_z, xlg_l, xf4_0, xf4_1, xf4_2, xf4_3, xgo_e, xcmp_eq, xcmp_ne, xcmp_lt, xcmp_ge, xcmp_gt, xcmp_le, xfg_0, xfg_1, xfg_2, xfg_3, xfg_4, xpop_0, xpop_s, xsw_n, xsw_c, xtb_n, xtb_c, xenp_n, xenp_i, xenp_r, xenp_z, xenp_l, xrep_0, xrep_s, Nat.reduceSub, true_and, and_true, cat_i, cat_r, Nat.reduceAdd, Nat.reduceLT, Nat.reduceLeDiff, Nat.reduceEqDiff, xnc, Int.reduceAdd, Int.reduceSub, Int.reduceNeg, Int.reduceLE, Int.reduceLT, Int.reduceToNat, ↓reduceIte, List.length_cons, List.length_nil, xlc0, xlc1, ite_10, i10, i01, i0_2, i0_3, i0_4, i0_6, i0_7, i0_8, i0_49, i0_10, or_true, true_or, or_false, false_or, not_false_eq_true, not_true_eq_false, xnt, xI_g, eq_self, xI_2, xJ_1, false_and, and_false, obT_t, obS_t, ob6_t, ob2_t, ob0_t, kT1_t, kT2_t, kT3_t, kT4_t, lT1, lT2, rT6, rT7, rT8, rT9, rT1i, rT2i, rS2, kSe_t, lSe, r0_0, r0_1, r0_2, r0_3, r0_4, r0_5, r0_6, r0_7, r0_8, r0_9, r1_i, r2_4, r2_5, r4_4, a1_t, a3_t, a5_t, a6_t, a7_t, a8_t, l1, l3, l5, l6, l7, l8, T1, T2, T3, T4, nI8, nI6, nI160, nI20, nI401, nI49, ob5_t, ob1_t, vp_tn, tn_def, lgc, dX6_fit_0, st_aload_n, dX6_fit_1, st_iload_n, dX6_fit_2, st_invokevirtual, dX6_fit_5, st_astore_n, dX6_fit_6, dX6_fit_7, st_invokestatic, dX6_fit_10, st_istore, dX6_fit_12, dX6_fit_13, st_ifnull, dX6_fit_16, st_iload, dX6_fit_18, st_ifCond, dX6_fit_21, dX6_fit_22, dX6_fit_24, dX6_fit_27, st_ireturn, dX6_fit_28, dX6_fit_29, dX6_fit_30, dX6_fit_31, dX6_fit_34, dX6_fit_36, dX6_fit_38, dX6_fit_41, dX6_fit_42, dX6_fit_44, dX6_fit_47, dX6_fit_48, dX6_fit_49, st_iconst, dX6_fit_50, dX6_fit_53, st_pop, dX6_fit_54, dX6_fit_55, dX6_fit_56, dX6_fit_57, dX6_fit_60, c_X6_fit_62, pX6_shelfBy_e, fX6_shelfBy_e, Option.toList_some, Option.toList_none, List.cons_append, List.nil_append, c_X6_fit_74, pwnr_r, fwnr_r, c_X6_fit_66, pX6_refuse_e, fX6_refuse_e, c_X6_fit_248, pX6_whyNoSights_e, fX6_whyNoSights_e, c_X6_fit_207, pX6_think_e, fX6_think_e, c_X6_fit_252, pX6_seen_n, fX6_seen_e, ofI_0, hp1, hp2, hp3, h, im1_0, pwnr_n, fwnr_n]
    clear hR
    simp only [hR2, fitX, noX]
    clear hR2
    grind (splits := 40)
theorem rX6_fit : ∀ as σ, pX6_fit as σ → ∃ K as', as = .ref K :: as' ∧ xob WX K 6 := by
  rintro as σ ⟨s, n, rfl, hpre⟩
  exact ⟨_, _, rfl, by first | exact hpre | exact hpre.1 | exact obT hpre | exact obT hpre.1 | exact obS hpre | exact obS hpre.1 | exact obM | exact ob6 | exact ob2 | exact ob0⟩
