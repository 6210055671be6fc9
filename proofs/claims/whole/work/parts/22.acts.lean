/-- the kind above -/
def abv (x : Int32) : Int32 := if 0 ≤ x ∧ x < 7 then xAb (tn x) else -1
theorem lt7 {i : Int32} (h : 0 ≤ i ∧ i < 7) : tn i < 7 := by
  have h1 : i.toInt < 7 := by simpa using Int32.lt_iff_toInt_lt.mp h.2
  show i.toInt.toNat < 7
  omega
theorem lt21 {i : Int32} (h : 0 ≤ i ∧ i < 21) : tn i < 21 := by
  have h1 : i.toInt < 21 := by simpa using Int32.lt_iff_toInt_lt.mp h.2
  show i.toInt.toNat < 21
  omega
theorem xro_0 : xro 900 = some (7, xAb) := rfl
theorem xro_1 : xro 901 = some (21, xBo) := rfl
theorem xro_n {K : Nat} (h : K < 900) : xro K = none := by
  unfold xro
  rw [if_neg (by omega), if_neg (by omega)]
theorem nI7' : Int32.ofNat 7 = 7 := rfl
theorem nI21' : Int32.ofNat 21 = 21 := rfl
theorem gs_32 : xlk [(32, 900), (39, 901)] 32 = some 900 := rfl
theorem gs_39 : xlk [(32, 900), (39, 901)] 39 = some 901 := rfl
def pX0_above (as : List Value) (σ : xS) : Prop := ∃ (x : Int32), as = [.int x] ∧ (True)
def fX0_above (as : List Value) (σ : xS) : Option Value × xS := match as with
  | [.int x] => (some (.int (abv x)), σ)
  | _ => (none, σ)
theorem pX0_above_e {x : Int32} {σ : xS} : pX0_above [.int x] σ = (True) := propext ⟨fun h => by obtain ⟨x, e, h⟩ := h; cases e; exact h, fun h => ⟨x, rfl, h⟩⟩
theorem fX0_above_e {x : Int32} {σ : xS} : fX0_above [.int x] σ = (some (.int (abv x)), σ) := rfl
def calX0_above : List (Nat × xCall) := []
set_option maxHeartbeats 4000000 in
set_option maxRecDepth 100000 in
theorem mX0_above : xMet WX yX0_above cX0_above 1 (some .int) 1 pX0_above fX0_above := by
  refine xMet_of (fld := xlk fldX0) (cal := xlk calX0_above) (ks := xlk []) (gs := xlk [(32, 900), (39, 901)]) (ro := xro) 0 (by decide) WX_nd rfl fldX0_ok xKs_nil xgsX0_ok (Or.inl rfl) xcal_nil ?_ ?_
  · rintro av σ ⟨x, rfl, hpre⟩
    exact Nat.le_of_ble_eq_true rfl
  rintro av σ ⟨x, rfl, hp1⟩ Rt hR
  refine xgo0 14 ?_
  simp (config := {maxSteps := 2000000}) only [xwp_2, xwp_0, xwp_1, xws_s, xdd_o, xld_0, xld_s, xs1_0, xs1_1, xs1_s, xs2_0, xs2_1, xs2_s, xlg_n, xlg_i, xlg_r, xlg_z, xlg_l, xf4_0, xf4_1, xf4_2, xf4_3, xgo_e, xcmp_eq, xcmp_ne, xcmp_lt, xcmp_ge, xcmp_gt, xcmp_le, xfg_0, xfg_1, xfg_2, xfg_3, xfg_4, xpop_0, xpop_s, xsw_n, xsw_c, xtb_n, xtb_c, xenp_n, xenp_i, xenp_r, xenp_z, xenp_l, xrep_0, xrep_s, Nat.reduceSub, true_and, and_true, cat_i, cat_r, Nat.reduceAdd, Nat.reduceLT, Nat.reduceLeDiff, Nat.reduceEqDiff, xnc, Int.reduceAdd, Int.reduceSub, Int.reduceNeg, Int.reduceLE, Int.reduceLT, Int.reduceToNat, ↓reduceIte, List.length_cons, List.length_nil, xlc0, xlc1, ite_10, i10, i01, i0_2, i0_3, i0_4, i0_6, i0_7, i0_8, i0_49, i0_10, or_true, true_or, or_false, false_or, not_false_eq_true, not_true_eq_false, xnt, xI_g, eq_self, xI_2, xJ_1, false_and, and_false, obT_t, obS_t, ob6_t, ob2_t, ob0_t, kT1_t, kT2_t, kT3_t, kT4_t, lT1, lT2, rT6, rT7, rT8, rT9, rT1i, rT2i, rS2, kSe_t, lSe, r0_0, r0_1, r0_2, r0_3, r0_4, r0_5, r0_6, r0_7, r0_8, r0_9, r1_i, r2_4, r2_5, r4_4, a1_t, a3_t, a5_t, a6_t, a7_t, a8_t, l1, l3, l5, l6, l7, l8, T1, T2, T3, T4, nI8, nI6, nI160, nI20, nI401, nI49, ob5_t, ob1_t, vp_tn, tn_def, lgc, dX0_above_0, st_iload_n, dX0_above_1, st_ifCond, dX0_above_4, dX0_above_5, st_getstatic, dX0_above_8, st_arraylength, dX0_above_9, st_if_icmp, dX0_above_12, dX0_above_15, dX0_above_16, st_iaload, dX0_above_17, st_goto, dX0_above_20, st_iconst, dX0_above_21, st_ireturn, ofI_m1, xro_0, xro_1, nI7', nI21', gs_32, gs_39, hp1]
  simp only [hR, fX0_above_e, abv]
  have h7 : 0 ≤ x ∧ x < 7 → tn x < 7 := lt7
  grind
def upF (k : Int32) : Nat → Int32
  | 0 => k
  | i + 1 => abv (upF k i)
def iuE (k o : Int32) (i : Nat) : Bool := decide (upF k i = -1 ∨ upF k i = o)
def iuV (k o : Int32) : Int32 := if xfs (iuE k o) 7 < 7 ∧ ¬ upF k (xfs (iuE k o) 7) = -1 then 1 else 0
def bfI (k a : Int32) (i : Nat) : Int32 := upF k i * 3 + a
def bfB (k a : Int32) (i : Nat) : Int32 := xBo (tn (bfI k a i))
def bfE (k a : Int32) (i : Nat) : Bool := decide (upF k i = -1 ∨ (0 ≤ bfI k a i ∧ bfI k a i < 21 ∧ ¬ bfB k a i = 0))
def bfN (k a : Int32) : Nat := xfs (bfE k a) 7
def bfV (k a : Int32) : Int32 := if bfN k a < 7 ∧ ¬ upF k (bfN k a) = -1 then bfB k a (bfN k a) else -1
def bfl (k a : Int32) : Nat → Option Value
  | 0 => none
  | i + 1 => some (.int (bfI k a i))
def pX0_isUnder (as : List Value) (σ : xS) : Prop := ∃ (k : Int32) (o : Int32), as = [.int k, .int o] ∧ (True)
def fX0_isUnder (as : List Value) (σ : xS) : Option Value × xS := match as with
  | [.int k, .int o] => (some (.int (iuV k o)), σ)
  | _ => (none, σ)
theorem pX0_isUnder_e {k : Int32} {o : Int32} {σ : xS} : pX0_isUnder [.int k, .int o] σ = (True) := propext ⟨fun h => by obtain ⟨k, o, e, h⟩ := h; cases e; exact h, fun h => ⟨k, o, rfl, h⟩⟩
theorem fX0_isUnder_e {k : Int32} {o : Int32} {σ : xS} : fX0_isUnder [.int k, .int o] σ = (some (.int (iuV k o)), σ) := rfl
def calX0_isUnder : List (Nat × xCall) := [(35, (true, 1, pX0_above, fX0_above))]
theorem c_X0_isUnder_35 : xlk calX0_isUnder 35 = some (true, 1, pX0_above, fX0_above) := rfl
set_option maxHeartbeats 4000000 in
set_option maxRecDepth 100000 in
theorem mX0_isUnder : xMet WX yX0_isUnder cX0_isUnder 4 (some .boolean) 2 pX0_isUnder fX0_isUnder := by
  refine xMet_of (fld := xlk fldX0) (cal := xlk calX0_isUnder) (ks := xlk []) (gs := xlk []) (ro := fun _ => none) 1 (by decide) WX_nd rfl fldX0_ok xKs_nil xGs_nil (Or.inr rfl) (xcal_cons (xCk_S mX0_above (by decide) (by decide) w_X0_35 ⟨by decide, by decide, by decide +kernel⟩) xcal_nil) ?_ ?_
  · rintro av σ ⟨k, o, rfl, hpre⟩
    exact Nat.le_of_ble_eq_true rfl
  rintro av σ ⟨k, o, rfl, hp1⟩ Rt hR
  refine xfor0 4 (7) 60 20 (fun i => [some (.int k), some (.int o), some (.int (upF k i)), some (.int (nI i))]) (fun i => σ) (fun i => ∀ j, j < i → iuE k o j = false) (fun j hj => by omega) (fun i hi hH => ?_) ?_
  · simp only [xwp_2, xwp_0, xwp_1, xws_s, xdd_o, xld_0, xld_s, xs1_0, xs1_1, xs1_s, xs2_0, xs2_1, xs2_s, xlg_n, xlg_i, xlg_r, xlg_z, xlg_l, xf4_0, xf4_1, xf4_2, xf4_3, xgo_e, xcmp_eq, xcmp_ne, xcmp_lt, xcmp_ge, xcmp_gt, xcmp_le, xfg_0, xfg_1, xfg_2, xfg_3, xfg_4, xpop_0, xpop_s, xsw_n, xsw_c, xtb_n, xtb_c, xenp_n, xenp_i, xenp_r, xenp_z, xenp_l, xrep_0, xrep_s, Nat.reduceSub, true_and, and_true, cat_i, cat_r, Nat.reduceAdd, Nat.reduceLT, Nat.reduceLeDiff, Nat.reduceEqDiff, xnc, Int.reduceAdd, Int.reduceSub, Int.reduceNeg, Int.reduceLE, Int.reduceLT, Int.reduceToNat, ↓reduceIte, List.length_cons, List.length_nil, xlc0, xlc1, ite_10, i10, i01, i0_2, i0_3, i0_4, i0_6, i0_7, i0_8, i0_49, i0_10, or_true, true_or, or_false, false_or, not_false_eq_true, not_true_eq_false, xnt, xI_g, eq_self, xI_2, xJ_1, false_and, and_false, obT_t, obS_t, ob6_t, ob2_t, ob0_t, kT1_t, kT2_t, kT3_t, kT4_t, lT1, lT2, rT6, rT7, rT8, rT9, rT1i, rT2i, rS2, kSe_t, lSe, r0_0, r0_1, r0_2, r0_3, r0_4, r0_5, r0_6, r0_7, r0_8, r0_9, r1_i, r2_4, r2_5, r4_4, a1_t, a3_t, a5_t, a6_t, a7_t, a8_t, l1, l3, l5, l6, l7, l8, T1, T2, T3, T4, nI8, nI6, nI160, nI20, nI401, nI49, ob5_t, ob1_t, vp_tn, tn_def, lgc, dX0_isUnder_0, st_iload_n, dX0_isUnder_1, st_istore_n, dX0_isUnder_2, st_iconst, dX0_isUnder_3, dX0_isUnder_4, dX0_isUnder_5, st_bipush, dX0_isUnder_7, st_if_icmp, dX0_isUnder_10, dX0_isUnder_11, dX0_isUnder_12, dX0_isUnder_15, dX0_isUnder_16, dX0_isUnder_17, dX0_isUnder_20, dX0_isUnder_21, st_ireturn, dX0_isUnder_22, dX0_isUnder_23, st_invokestatic, dX0_isUnder_26, dX0_isUnder_27, st_iinc, dX0_isUnder_30, st_goto, dX0_isUnder_33, dX0_isUnder_34, c_X0_isUnder_35, pX0_above_e, fX0_above_e, Option.toList_some, Option.toList_none, List.cons_append, List.nil_append, ofI_0, ofI_6, ofI_m1, ofI_1, hp1]
    have hc : (6 : Int32) < nI i ↔ 6 < i := nI_ltI (a := 6) (by omega) (by omega)
    have e1 : nI i + 1 = nI (i + 1) := nI_1 i
    have e2 : abv (upF k i) = upF k (i + 1) := rfl
    have e5 : iuE k o i = decide (upF k i = -1 ∨ upF k i = o) := rfl
    have cont : iuE k o i = false → (∀ j, j < i + 1 → iuE k o j = false) := fun h2 => xall_s hH h2
    have fin : i = 7 → Rt (some (.int 0)) σ := fun h => by
      rw [hR, fX0_isUnder_e, iuV, xfs_no (fun j hj => hH j (by omega)), if_neg (fun q => absurd q.1 (by decide))]
      exact ⟨rfl, rfl⟩
    have st0 : i < 7 → upF k i = -1 → Rt (some (.int 0)) σ := fun h1 h2 => by
      rw [hR, fX0_isUnder_e, iuV, xfs_at h1 (decide_eq_true (Or.inl h2)) hH, if_neg (fun q => q.2 h2)]
      exact ⟨rfl, rfl⟩
    have st1 : i < 7 → ¬ upF k i = -1 → upF k i = o → Rt (some (.int 1)) σ := fun h1 h2 h3 => by
      rw [hR, fX0_isUnder_e, iuV, xfs_at h1 (decide_eq_true (Or.inr h3)) hH, if_pos ⟨h1, h2⟩]
      exact ⟨rfl, rfl⟩
    simp only [hc, e1, e2]
    grind
  · simp only [xwp_2, xwp_0, xwp_1, xws_s, xdd_o, xld_0, xld_s, xs1_0, xs1_1, xs1_s, xs2_0, xs2_1, xs2_s, xlg_n, xlg_i, xlg_r, xlg_z, xlg_l, xf4_0, xf4_1, xf4_2, xf4_3, xgo_e, xcmp_eq, xcmp_ne, xcmp_lt, xcmp_ge, xcmp_gt, xcmp_le, xfg_0, xfg_1, xfg_2, xfg_3, xfg_4, xpop_0, xpop_s, xsw_n, xsw_c, xtb_n, xtb_c, xenp_n, xenp_i, xenp_r, xenp_z, xenp_l, xrep_0, xrep_s, Nat.reduceSub, true_and, and_true, cat_i, cat_r, Nat.reduceAdd, Nat.reduceLT, Nat.reduceLeDiff, Nat.reduceEqDiff, xnc, Int.reduceAdd, Int.reduceSub, Int.reduceNeg, Int.reduceLE, Int.reduceLT, Int.reduceToNat, ↓reduceIte, List.length_cons, List.length_nil, xlc0, xlc1, ite_10, i10, i01, i0_2, i0_3, i0_4, i0_6, i0_7, i0_8, i0_49, i0_10, or_true, true_or, or_false, false_or, not_false_eq_true, not_true_eq_false, xnt, xI_g, eq_self, xI_2, xJ_1, false_and, and_false, obT_t, obS_t, ob6_t, ob2_t, ob0_t, kT1_t, kT2_t, kT3_t, kT4_t, lT1, lT2, rT6, rT7, rT8, rT9, rT1i, rT2i, rS2, kSe_t, lSe, r0_0, r0_1, r0_2, r0_3, r0_4, r0_5, r0_6, r0_7, r0_8, r0_9, r1_i, r2_4, r2_5, r4_4, a1_t, a3_t, a5_t, a6_t, a7_t, a8_t, l1, l3, l5, l6, l7, l8, T1, T2, T3, T4, nI8, nI6, nI160, nI20, nI401, nI49, ob5_t, ob1_t, vp_tn, tn_def, lgc, dX0_isUnder_0, st_iload_n, dX0_isUnder_1, st_istore_n, dX0_isUnder_2, st_iconst, dX0_isUnder_3, dX0_isUnder_4, dX0_isUnder_5, st_bipush, dX0_isUnder_7, st_if_icmp, dX0_isUnder_10, dX0_isUnder_11, dX0_isUnder_12, dX0_isUnder_15, dX0_isUnder_16, dX0_isUnder_17, dX0_isUnder_20, dX0_isUnder_21, st_ireturn, dX0_isUnder_22, dX0_isUnder_23, st_invokestatic, dX0_isUnder_26, dX0_isUnder_27, st_iinc, dX0_isUnder_30, st_goto, dX0_isUnder_33, dX0_isUnder_34, c_X0_isUnder_35, pX0_above_e, fX0_above_e, Option.toList_some, Option.toList_none, List.cons_append, List.nil_append, ofI_0, ofI_6, ofI_m1, ofI_1, hp1]
    first | exact rfl | exact ⟨rfl, rfl⟩ | trivial
def pX0_bodyFor (as : List Value) (σ : xS) : Prop := ∃ (k : Int32) (a : Int32), as = [.int k, .int a] ∧ (True)
def fX0_bodyFor (as : List Value) (σ : xS) : Option Value × xS := match as with
  | [.int k, .int a] => (some (.int (bfV k a)), σ)
  | _ => (none, σ)
theorem pX0_bodyFor_e {k : Int32} {a : Int32} {σ : xS} : pX0_bodyFor [.int k, .int a] σ = (True) := propext ⟨fun h => by obtain ⟨k, a, e, h⟩ := h; cases e; exact h, fun h => ⟨k, a, rfl, h⟩⟩
theorem fX0_bodyFor_e {k : Int32} {a : Int32} {σ : xS} : fX0_bodyFor [.int k, .int a] σ = (some (.int (bfV k a)), σ) := rfl
def calX0_bodyFor : List (Nat × xCall) := [(35, (true, 1, pX0_above, fX0_above))]
theorem c_X0_bodyFor_35 : xlk calX0_bodyFor 35 = some (true, 1, pX0_above, fX0_above) := rfl
set_option maxHeartbeats 4000000 in
set_option maxRecDepth 100000 in
theorem mX0_bodyFor : xMet WX yX0_bodyFor cX0_bodyFor 5 (some .int) 2 pX0_bodyFor fX0_bodyFor := by
  refine xMet_of (fld := xlk fldX0) (cal := xlk calX0_bodyFor) (ks := xlk []) (gs := xlk [(32, 900), (39, 901)]) (ro := xro) 0 (by decide) WX_nd rfl fldX0_ok xKs_nil xgsX0_ok (Or.inl rfl) (xcal_cons (xCk_S mX0_above (by decide) (by decide) w_X0_35 ⟨by decide, by decide, by decide +kernel⟩) xcal_nil) ?_ ?_
  · rintro av σ ⟨k, a, rfl, hpre⟩
    exact Nat.le_of_ble_eq_true rfl
  rintro av σ ⟨k, a, rfl, hp1⟩ Rt hR
  refine xfor0 4 (7) 60 20 (fun i => [some (.int k), some (.int a), some (.int (upF k i)), some (.int (nI i)), bfl k a i]) (fun i => σ) (fun i => ∀ j, j < i → bfE k a j = false) (fun j hj => by omega) (fun i hi hH => ?_) ?_
  · simp only [xwp_2, xwp_0, xwp_1, xws_s, xdd_o, xld_0, xld_s, xs1_0, xs1_1, xs1_s, xs2_0, xs2_1, xs2_s, xlg_n, xlg_i, xlg_r, xlg_z, xlg_l, xf4_0, xf4_1, xf4_2, xf4_3, xgo_e, xcmp_eq, xcmp_ne, xcmp_lt, xcmp_ge, xcmp_gt, xcmp_le, xfg_0, xfg_1, xfg_2, xfg_3, xfg_4, xpop_0, xpop_s, xsw_n, xsw_c, xtb_n, xtb_c, xenp_n, xenp_i, xenp_r, xenp_z, xenp_l, xrep_0, xrep_s, Nat.reduceSub, true_and, and_true, cat_i, cat_r, Nat.reduceAdd, Nat.reduceLT, Nat.reduceLeDiff, Nat.reduceEqDiff, xnc, Int.reduceAdd, Int.reduceSub, Int.reduceNeg, Int.reduceLE, Int.reduceLT, Int.reduceToNat, ↓reduceIte, List.length_cons, List.length_nil, xlc0, xlc1, ite_10, i10, i01, i0_2, i0_3, i0_4, i0_6, i0_7, i0_8, i0_49, i0_10, or_true, true_or, or_false, false_or, not_false_eq_true, not_true_eq_false, xnt, xI_g, eq_self, xI_2, xJ_1, false_and, and_false, obT_t, obS_t, ob6_t, ob2_t, ob0_t, kT1_t, kT2_t, kT3_t, kT4_t, lT1, lT2, rT6, rT7, rT8, rT9, rT1i, rT2i, rS2, kSe_t, lSe, r0_0, r0_1, r0_2, r0_3, r0_4, r0_5, r0_6, r0_7, r0_8, r0_9, r1_i, r2_4, r2_5, r4_4, a1_t, a3_t, a5_t, a6_t, a7_t, a8_t, l1, l3, l5, l6, l7, l8, T1, T2, T3, T4, nI8, nI6, nI160, nI20, nI401, nI49, ob5_t, ob1_t, vp_tn, tn_def, lgc, dX0_bodyFor_0, st_iload_n, dX0_bodyFor_1, st_istore_n, dX0_bodyFor_2, st_iconst, dX0_bodyFor_3, dX0_bodyFor_4, dX0_bodyFor_5, st_bipush, dX0_bodyFor_7, st_if_icmp, dX0_bodyFor_10, dX0_bodyFor_11, dX0_bodyFor_12, dX0_bodyFor_15, dX0_bodyFor_16, dX0_bodyFor_17, st_imul, dX0_bodyFor_18, dX0_bodyFor_19, st_iadd, dX0_bodyFor_20, st_istore, dX0_bodyFor_22, st_iload, dX0_bodyFor_24, st_ifCond, dX0_bodyFor_27, dX0_bodyFor_29, st_getstatic, dX0_bodyFor_32, st_arraylength, dX0_bodyFor_33, dX0_bodyFor_36, dX0_bodyFor_39, dX0_bodyFor_41, st_iaload, dX0_bodyFor_42, dX0_bodyFor_45, dX0_bodyFor_48, dX0_bodyFor_50, dX0_bodyFor_51, st_ireturn, dX0_bodyFor_52, dX0_bodyFor_53, st_invokestatic, dX0_bodyFor_56, dX0_bodyFor_57, st_iinc, dX0_bodyFor_60, st_goto, dX0_bodyFor_63, dX0_bodyFor_64, c_X0_bodyFor_35, pX0_above_e, fX0_above_e, Option.toList_some, Option.toList_none, List.cons_append, List.nil_append, ofI_0, ofI_6, ofI_m1, ofI_3, ofI_1, xro_0, xro_1, nI7', nI21', gs_32, gs_39, hp1]
    have hc : (6 : Int32) < nI i ↔ 6 < i := nI_ltI (a := 6) (by omega) (by omega)
    have e1 : nI i + 1 = nI (i + 1) := nI_1 i
    have e2 : abv (upF k i) = upF k (i + 1) := rfl
    have e3 : bfl k a (i + 1) = some (.int (bfI k a i)) := rfl
    have e4 : upF k i * 3 + a = bfI k a i := rfl
    have e6 : xBo (tn (bfI k a i)) = bfB k a i := rfl
    have e5 : bfE k a i = decide (upF k i = -1 ∨ (0 ≤ bfI k a i ∧ bfI k a i < 21 ∧ ¬ bfB k a i = 0)) := rfl
    have h21 : 0 ≤ bfI k a i ∧ bfI k a i < 21 → tn (bfI k a i) < 21 := lt21
    have cont : bfE k a i = false → (∀ j, j < i + 1 → bfE k a j = false) := fun h2 => xall_s hH h2
    have fin : i = 7 → Rt (some (.int (-1))) σ := fun h => by
      rw [hR, fX0_bodyFor_e, bfV, bfN, xfs_no (fun j hj => hH j (by omega)), if_neg (fun q => absurd q.1 (by decide))]
      exact ⟨rfl, rfl⟩
    have st0 : i < 7 → upF k i = -1 → Rt (some (.int (-1))) σ := fun h1 h2 => by
      rw [hR, fX0_bodyFor_e, bfV, bfN, xfs_at h1 (decide_eq_true (Or.inl h2)) hH, if_neg (fun q => q.2 h2)]
      exact ⟨rfl, rfl⟩
    have st1 : i < 7 → ¬ upF k i = -1 → 0 ≤ bfI k a i ∧ bfI k a i < 21 ∧ ¬ bfB k a i = 0 → Rt (some (.int (bfB k a i))) σ := fun h1 h2 h3 => by
      rw [hR, fX0_bodyFor_e, bfV, bfN, xfs_at h1 (decide_eq_true (Or.inr h3)) hH, if_pos ⟨h1, h2⟩]
      exact ⟨rfl, rfl⟩
    simp only [hc, e1, e2, e4, e6, e3]
    clear hR
    grind (splits := 40)
  · simp only [xwp_2, xwp_0, xwp_1, xws_s, xdd_o, xld_0, xld_s, xs1_0, xs1_1, xs1_s, xs2_0, xs2_1, xs2_s, xlg_n, xlg_i, xlg_r, xlg_z, xlg_l, xf4_0, xf4_1, xf4_2, xf4_3, xgo_e, xcmp_eq, xcmp_ne, xcmp_lt, xcmp_ge, xcmp_gt, xcmp_le, xfg_0, xfg_1, xfg_2, xfg_3, xfg_4, xpop_0, xpop_s, xsw_n, xsw_c, xtb_n, xtb_c, xenp_n, xenp_i, xenp_r, xenp_z, xenp_l, xrep_0, xrep_s, Nat.reduceSub, true_and, and_true, cat_i, cat_r, Nat.reduceAdd, Nat.reduceLT, Nat.reduceLeDiff, Nat.reduceEqDiff, xnc, Int.reduceAdd, Int.reduceSub, Int.reduceNeg, Int.reduceLE, Int.reduceLT, Int.reduceToNat, ↓reduceIte, List.length_cons, List.length_nil, xlc0, xlc1, ite_10, i10, i01, i0_2, i0_3, i0_4, i0_6, i0_7, i0_8, i0_49, i0_10, or_true, true_or, or_false, false_or, not_false_eq_true, not_true_eq_false, xnt, xI_g, eq_self, xI_2, xJ_1, false_and, and_false, obT_t, obS_t, ob6_t, ob2_t, ob0_t, kT1_t, kT2_t, kT3_t, kT4_t, lT1, lT2, rT6, rT7, rT8, rT9, rT1i, rT2i, rS2, kSe_t, lSe, r0_0, r0_1, r0_2, r0_3, r0_4, r0_5, r0_6, r0_7, r0_8, r0_9, r1_i, r2_4, r2_5, r4_4, a1_t, a3_t, a5_t, a6_t, a7_t, a8_t, l1, l3, l5, l6, l7, l8, T1, T2, T3, T4, nI8, nI6, nI160, nI20, nI401, nI49, ob5_t, ob1_t, vp_tn, tn_def, lgc, dX0_bodyFor_0, st_iload_n, dX0_bodyFor_1, st_istore_n, dX0_bodyFor_2, st_iconst, dX0_bodyFor_3, dX0_bodyFor_4, dX0_bodyFor_5, st_bipush, dX0_bodyFor_7, st_if_icmp, dX0_bodyFor_10, dX0_bodyFor_11, dX0_bodyFor_12, dX0_bodyFor_15, dX0_bodyFor_16, dX0_bodyFor_17, st_imul, dX0_bodyFor_18, dX0_bodyFor_19, st_iadd, dX0_bodyFor_20, st_istore, dX0_bodyFor_22, st_iload, dX0_bodyFor_24, st_ifCond, dX0_bodyFor_27, dX0_bodyFor_29, st_getstatic, dX0_bodyFor_32, st_arraylength, dX0_bodyFor_33, dX0_bodyFor_36, dX0_bodyFor_39, dX0_bodyFor_41, st_iaload, dX0_bodyFor_42, dX0_bodyFor_45, dX0_bodyFor_48, dX0_bodyFor_50, dX0_bodyFor_51, st_ireturn, dX0_bodyFor_52, dX0_bodyFor_53, st_invokestatic, dX0_bodyFor_56, dX0_bodyFor_57, st_iinc, dX0_bodyFor_60, st_goto, dX0_bodyFor_63, dX0_bodyFor_64, c_X0_bodyFor_35, pX0_above_e, fX0_above_e, Option.toList_some, Option.toList_none, List.cons_append, List.nil_append, ofI_0, ofI_6, ofI_m1, ofI_3, ofI_1, xro_0, xro_1, nI7', nI21', gs_32, gs_39, hp1]
    first | exact rfl | exact ⟨rfl, rfl⟩ | trivial
/-- a body, with so many more that may be called in one another -/
def rbF : Nat → xS → Int32 → Int32 → Int32 → Int32 × xS
  | 0, σ, _, _, _ => (0, σ)
  | k + 1, σ, fr, ac, x =>
    if bfV fr ac = 10 then (x + (ntS σ (bfV fr ac)).1 4 2, ntS σ (bfV fr ac))
    else if bfV fr ac = 11 then ((rbF k (ntS σ (bfV fr ac)) ((ntS σ (bfV fr ac)).1 4 1) 0 x).1 * 2, (rbF k (ntS σ (bfV fr ac)) ((ntS σ (bfV fr ac)).1 4 1) 0 x).2)
    else if bfV fr ac = 12 then ((rbF k (ntS σ (bfV fr ac)) ((ntS σ (bfV fr ac)).1 4 1) 1 x).1 ^^^ (rbF k (rbF k (ntS σ (bfV fr ac)) ((ntS σ (bfV fr ac)).1 4 1) 1 x).2 ((rbF k (ntS σ (bfV fr ac)) ((ntS σ (bfV fr ac)).1 4 1) 1 x).2.1 4 1) 0 (x - (rbF k (ntS σ (bfV fr ac)) ((ntS σ (bfV fr ac)).1 4 1) 1 x).2.1 4 3)).1, (rbF k (rbF k (ntS σ (bfV fr ac)) ((ntS σ (bfV fr ac)).1 4 1) 1 x).2 ((rbF k (ntS σ (bfV fr ac)) ((ntS σ (bfV fr ac)).1 4 1) 1 x).2.1 4 1) 0 (x - (rbF k (ntS σ (bfV fr ac)) ((ntS σ (bfV fr ac)).1 4 1) 1 x).2.1 4 3)).2)
    else if bfV fr ac = 20 then ((rbF k (ntS σ (bfV fr ac)) 0 0 x).1 + (rbF k (ntS σ (bfV fr ac)) 0 0 x).2.1 4 3, (rbF k (ntS σ (bfV fr ac)) 0 0 x).2)
    else if bfV fr ac = 30 then ((rbF k (ntS σ (bfV fr ac)) 0 1 x).1 * 3, (rbF k (ntS σ (bfV fr ac)) 0 1 x).2)
    else if bfV fr ac = 40 then rbF k (ntS σ (bfV fr ac)) 0 1 (x + 1)
    else if bfV fr ac = 50 then (- (rbF k (ntS σ (bfV fr ac)) 3 2 x).1, (rbF k (ntS σ (bfV fr ac)) 3 2 x).2)
    else if bfV fr ac = 51 then ((rbF k (ntS σ (bfV fr ac)) 3 0 x).1 - (rbF k (ntS σ (bfV fr ac)) 3 0 x).2.1 4 2, (rbF k (ntS σ (bfV fr ac)) 3 0 x).2)
    else if bfV fr ac = 60 then ((rbF k (ntS σ (bfV fr ac)) 1 2 x).1 ^^^ 5, (rbF k (ntS σ (bfV fr ac)) 1 2 x).2)
    else if bfV fr ac = 70 then ((rbF k (ntS σ (bfV fr ac)) 3 0 x).1 * 2, (rbF k (ntS σ (bfV fr ac)) 3 0 x).2)
    else if bfV fr ac = 71 then rbF k (ntS σ (bfV fr ac)) 3 1 (x - (ntS σ (bfV fr ac)).1 4 3)
    else (0, ntS σ (bfV fr ac))
def pRB (k : Nat) (as : List Value) (_ : xS) : Prop := ∃ fr ac x : Int32, as = [.ref 4, .int fr, .int ac, .int x, .int (nI (21 - k))]
def fRB (k : Nat) (as : List Value) (σ : xS) : Option Value × xS := match as with
  | [.ref 4, .int fr, .int ac, .int x, .int _] => (some (.int (rbF k σ fr ac x).1), (rbF k σ fr ac x).2)
  | _ => (none, σ)
theorem pRB_e {k : Nat} {fr ac x d : Int32} {σ : xS} (h : d = nI (21 - k)) : pRB k [.ref 4, .int fr, .int ac, .int x, .int d] σ := ⟨fr, ac, x, by rw [h]⟩
theorem fRB_e {k : Nat} {fr ac x d : Int32} {σ : xS} : fRB k [.ref 4, .int fr, .int ac, .int x, .int d] σ = (some (.int (rbF k σ fr ac x).1), (rbF k σ fr ac x).2) := rfl
def calRB (k : Nat) : List (Nat × xCall) := [(42, (true, 2, pX0_bodyFor, fX0_bodyFor)), (46, (false, 2, pX0_note, fX0_note)), (28, (true, 5, pRB k, fRB k))]
theorem cRB_42 {k : Nat} : xlk (calRB k) 42 = some (true, 2, pX0_bodyFor, fX0_bodyFor) := rfl
theorem cRB_46 {k : Nat} : xlk (calRB k) 46 = some (false, 2, pX0_note, fX0_note) := rfl
theorem cRB_28 {k : Nat} : xlk (calRB k) 28 = some (true, 5, pRB k, fRB k) := rfl
set_option maxHeartbeats 4000000 in
set_option maxRecDepth 100000 in
theorem mRB0 : xMet WX yX0_runBody cX0_runBody 7 (some .int) 3 (pRB 0) (fRB 0) := by
  refine xMet_of (fld := xlk fldX0) (cal := xlk []) (ks := xlk []) (gs := xlk []) (ro := fun _ => none) 0 (by decide) WX_nd rfl fldX0_ok xKs_nil xGs_nil (Or.inr rfl) xcal_nil ?_ ?_
  · rintro av σ ⟨fr, ac, x, rfl⟩
    exact Nat.le_of_ble_eq_true rfl
  rintro av σ ⟨fr, ac, x, rfl⟩ Rt hR
  have h0 : ¬ nI (21 - 0) ≤ 20 := by decide
  refine xgo0 10 ?_
  simp only [xwp_2, xwp_0, xwp_1, xws_s, xdd_o, xld_0, xld_s, xs1_0, xs1_1, xs1_s, xs2_0, xs2_1, xs2_s, xlg_n, xlg_i, xlg_r, xlg_z, xlg_l, xf4_0, xf4_1, xf4_2, xf4_3, xgo_e, xcmp_eq, xcmp_ne, xcmp_lt, xcmp_ge, xcmp_gt, xcmp_le, xfg_0, xfg_1, xfg_2, xfg_3, xfg_4, xpop_0, xpop_s, xsw_n, xsw_c, xtb_n, xtb_c, xenp_n, xenp_i, xenp_r, xenp_z, xenp_l, xrep_0, xrep_s, Nat.reduceSub, true_and, and_true, cat_i, cat_r, Nat.reduceAdd, Nat.reduceLT, Nat.reduceLeDiff, Nat.reduceEqDiff, xnc, Int.reduceAdd, Int.reduceSub, Int.reduceNeg, Int.reduceLE, Int.reduceLT, Int.reduceToNat, ↓reduceIte, List.length_cons, List.length_nil, xlc0, xlc1, ite_10, i10, i01, i0_2, i0_3, i0_4, i0_6, i0_7, i0_8, i0_49, i0_10, or_true, true_or, or_false, false_or, not_false_eq_true, not_true_eq_false, xnt, xI_g, eq_self, xI_2, xJ_1, false_and, and_false, obT_t, obS_t, ob6_t, ob2_t, ob0_t, kT1_t, kT2_t, kT3_t, kT4_t, lT1, lT2, rT6, rT7, rT8, rT9, rT1i, rT2i, rS2, kSe_t, lSe, r0_0, r0_1, r0_2, r0_3, r0_4, r0_5, r0_6, r0_7, r0_8, r0_9, r1_i, r2_4, r2_5, r4_4, a1_t, a3_t, a5_t, a6_t, a7_t, a8_t, l1, l3, l5, l6, l7, l8, T1, T2, T3, T4, nI8, nI6, nI160, nI20, nI401, nI49, ob5_t, ob1_t, vp_tn, tn_def, lgc, dX0_runBody_0, st_iload, dX0_runBody_2, st_bipush, dX0_runBody_4, st_if_icmp, dX0_runBody_7, st_iconst, dX0_runBody_8, st_ireturn, dX0_runBody_9, dX0_runBody_11, dX0_runBody_12, st_iadd, dX0_runBody_13, st_istore, dX0_runBody_15, st_iload_n, dX0_runBody_16, dX0_runBody_17, st_invokestatic, dX0_runBody_20, dX0_runBody_22, st_aload_n, dX0_runBody_23, dX0_runBody_25, st_invokevirtual, dX0_runBody_28, dX0_runBody_30, st_lookupswitch, dX0_runBody_128, dX0_runBody_129, dX0_runBody_130, st_getfield, fl_X0_18, dX0_runBody_133, dX0_runBody_134, dX0_runBody_135, dX0_runBody_136, dX0_runBody_137, fl_X0_15, dX0_runBody_140, dX0_runBody_141, dX0_runBody_142, dX0_runBody_144, dX0_runBody_147, dX0_runBody_148, st_imul, dX0_runBody_149, dX0_runBody_150, dX0_runBody_151, dX0_runBody_152, dX0_runBody_155, dX0_runBody_156, dX0_runBody_157, dX0_runBody_159, dX0_runBody_162, dX0_runBody_163, dX0_runBody_164, dX0_runBody_167, dX0_runBody_168, dX0_runBody_169, dX0_runBody_170, fl_X0_21, dX0_runBody_173, st_isub, dX0_runBody_174, dX0_runBody_176, dX0_runBody_179, st_ixor, dX0_runBody_180, dX0_runBody_181, dX0_runBody_182, dX0_runBody_183, dX0_runBody_184, dX0_runBody_185, dX0_runBody_187, dX0_runBody_190, dX0_runBody_191, dX0_runBody_194, dX0_runBody_195, dX0_runBody_196, dX0_runBody_197, dX0_runBody_198, dX0_runBody_199, dX0_runBody_200, dX0_runBody_202, dX0_runBody_205, dX0_runBody_206, dX0_runBody_207, dX0_runBody_208, dX0_runBody_209, dX0_runBody_210, dX0_runBody_211, dX0_runBody_212, dX0_runBody_213, dX0_runBody_214, dX0_runBody_216, dX0_runBody_219, dX0_runBody_220, dX0_runBody_221, dX0_runBody_222, dX0_runBody_223, dX0_runBody_224, dX0_runBody_226, dX0_runBody_229, st_ineg, dX0_runBody_230, dX0_runBody_231, dX0_runBody_232, dX0_runBody_233, dX0_runBody_234, dX0_runBody_235, dX0_runBody_237, dX0_runBody_240, dX0_runBody_241, dX0_runBody_244, dX0_runBody_245, dX0_runBody_246, dX0_runBody_247, dX0_runBody_248, dX0_runBody_249, dX0_runBody_250, dX0_runBody_252, dX0_runBody_255, dX0_runBody_256, dX0_runBody_257, dX0_runBody_258, dX0_runBody_259, dX0_runBody_260, dX0_runBody_261, dX0_runBody_262, dX0_runBody_264, dX0_runBody_267, dX0_runBody_268, dX0_runBody_269, dX0_runBody_270, dX0_runBody_271, dX0_runBody_272, dX0_runBody_273, dX0_runBody_274, dX0_runBody_275, dX0_runBody_278, dX0_runBody_279, dX0_runBody_281, dX0_runBody_284, dX0_runBody_285, dX0_runBody_286, pX0_bodyFor_e, fX0_bodyFor_e, Option.toList_some, Option.toList_none, List.cons_append, List.nil_append, pX0_note_e, fX0_note_e, ofI_20, ofI_0, ofI_1, ofI_m2, ofI_m1, ofI_2, ofI_3, ofI_4, ofI_5, ofI_6, ofI_7, ofI_8, ofI_9, ofI_10, ofI_11, h0]
  simp only [hR, fRB_e, rbF, false_implies, true_implies, and_true]
set_option maxHeartbeats 8000000 in
set_option maxRecDepth 100000 in
theorem mRBs {k : Nat} (hk : k + 1 ≤ 21) (ih : xMet WX yX0_runBody cX0_runBody 7 (some .int) (k + 3) (pRB k) (fRB k)) : xMet WX yX0_runBody cX0_runBody 7 (some .int) (k + 4) (pRB (k + 1)) (fRB (k + 1)) := by
  refine xMet_of (fld := xlk fldX0) (cal := xlk (calRB k)) (ks := xlk []) (gs := xlk []) (ro := fun _ => none) 0 (by decide) WX_nd rfl fldX0_ok xKs_nil xGs_nil (Or.inr rfl) (xcal_cons (xCk_S mX0_bodyFor (by omega) (by decide) w_X0_42 ⟨by decide, by decide, by decide +kernel⟩) (xcal_cons (xCk_V mX0_note 0 (by omega) (by decide) (by decide) rfl (fun as σ h _ => rX0_note as σ h) w_X0_46 ⟨by decide, by decide, by decide +kernel⟩) (xcal_cons (xCk_S ih (by omega) (by decide) w_X0_28 ⟨by decide, by decide, by decide +kernel⟩) xcal_nil))) ?_ ?_
  · rintro av σ ⟨fr, ac, x, rfl⟩
    exact Nat.le_of_ble_eq_true rfl
  rintro av σ ⟨fr, ac, x, rfl⟩ Rt hR
  have h0 : nI (21 - (k + 1)) ≤ 20 := (nI_leI (a := 21 - (k + 1)) (b := 20) (by omega) (by omega)).mpr (by omega)
  have h1 : nI (21 - (k + 1)) + 1 = nI (21 - k) := by rw [nI_1, show 21 - (k + 1) + 1 = 21 - k by omega]
  have h2 : ∀ fr ac x σ, pRB k [.ref 4, .int fr, .int ac, .int x, .int (nI (21 - k))] σ = True := fun fr ac x σ => eq_true (pRB_e rfl)
  rw [fRB_e, rbF] at hR
  refine xgo0 60 ?_
  simp (config := {maxSteps := 4000000}) only [xwp_2, xwp_0, xwp_1, xws_s, xdd_o, xld_0, xld_s, xs1_0, xs1_1, xs1_s, xs2_0, xs2_1, xs2_s, xlg_n, xlg_i, xlg_r, xlg_z, xlg_l, xf4_0, xf4_1, xf4_2, xf4_3, xgo_e, xcmp_eq, xcmp_ne, xcmp_lt, xcmp_ge, xcmp_gt, xcmp_le, xfg_0, xfg_1, xfg_2, xfg_3, xfg_4, xpop_0, xpop_s, xsw_n, xsw_c, xtb_n, xtb_c, xenp_n, xenp_i, xenp_r, xenp_z, xenp_l, xrep_0, xrep_s, Nat.reduceSub, true_and, and_true, cat_i, cat_r, Nat.reduceAdd, Nat.reduceLT, Nat.reduceLeDiff, Nat.reduceEqDiff, xnc, Int.reduceAdd, Int.reduceSub, Int.reduceNeg, Int.reduceLE, Int.reduceLT, Int.reduceToNat, ↓reduceIte, List.length_cons, List.length_nil, xlc0, xlc1, ite_10, i10, i01, i0_2, i0_3, i0_4, i0_6, i0_7, i0_8, i0_49, i0_10, or_true, true_or, or_false, false_or, not_false_eq_true, not_true_eq_false, xnt, xI_g, eq_self, xI_2, xJ_1, false_and, and_false, obT_t, obS_t, ob6_t, ob2_t, ob0_t, kT1_t, kT2_t, kT3_t, kT4_t, lT1, lT2, rT6, rT7, rT8, rT9, rT1i, rT2i, rS2, kSe_t, lSe, r0_0, r0_1, r0_2, r0_3, r0_4, r0_5, r0_6, r0_7, r0_8, r0_9, r1_i, r2_4, r2_5, r4_4, a1_t, a3_t, a5_t, a6_t, a7_t, a8_t, l1, l3, l5, l6, l7, l8, T1, T2, T3, T4, nI8, nI6, nI160, nI20, nI401, nI49, ob5_t, ob1_t, vp_tn, tn_def, lgc, dX0_runBody_0, st_iload, dX0_runBody_2, st_bipush, dX0_runBody_4, st_if_icmp, dX0_runBody_7, st_iconst, dX0_runBody_8, st_ireturn, dX0_runBody_9, dX0_runBody_11, dX0_runBody_12, st_iadd, dX0_runBody_13, st_istore, dX0_runBody_15, st_iload_n, dX0_runBody_16, dX0_runBody_17, st_invokestatic, dX0_runBody_20, dX0_runBody_22, st_aload_n, dX0_runBody_23, dX0_runBody_25, st_invokevirtual, dX0_runBody_28, dX0_runBody_30, st_lookupswitch, dX0_runBody_128, dX0_runBody_129, dX0_runBody_130, st_getfield, fl_X0_18, dX0_runBody_133, dX0_runBody_134, dX0_runBody_135, dX0_runBody_136, dX0_runBody_137, fl_X0_15, dX0_runBody_140, dX0_runBody_141, dX0_runBody_142, dX0_runBody_144, dX0_runBody_147, dX0_runBody_148, st_imul, dX0_runBody_149, dX0_runBody_150, dX0_runBody_151, dX0_runBody_152, dX0_runBody_155, dX0_runBody_156, dX0_runBody_157, dX0_runBody_159, dX0_runBody_162, dX0_runBody_163, dX0_runBody_164, dX0_runBody_167, dX0_runBody_168, dX0_runBody_169, dX0_runBody_170, fl_X0_21, dX0_runBody_173, st_isub, dX0_runBody_174, dX0_runBody_176, dX0_runBody_179, st_ixor, dX0_runBody_180, dX0_runBody_181, dX0_runBody_182, dX0_runBody_183, dX0_runBody_184, dX0_runBody_185, dX0_runBody_187, dX0_runBody_190, dX0_runBody_191, dX0_runBody_194, dX0_runBody_195, dX0_runBody_196, dX0_runBody_197, dX0_runBody_198, dX0_runBody_199, dX0_runBody_200, dX0_runBody_202, dX0_runBody_205, dX0_runBody_206, dX0_runBody_207, dX0_runBody_208, dX0_runBody_209, dX0_runBody_210, dX0_runBody_211, dX0_runBody_212, dX0_runBody_213, dX0_runBody_214, dX0_runBody_216, dX0_runBody_219, dX0_runBody_220, dX0_runBody_221, dX0_runBody_222, dX0_runBody_223, dX0_runBody_224, dX0_runBody_226, dX0_runBody_229, st_ineg, dX0_runBody_230, dX0_runBody_231, dX0_runBody_232, dX0_runBody_233, dX0_runBody_234, dX0_runBody_235, dX0_runBody_237, dX0_runBody_240, dX0_runBody_241, dX0_runBody_244, dX0_runBody_245, dX0_runBody_246, dX0_runBody_247, dX0_runBody_248, dX0_runBody_249, dX0_runBody_250, dX0_runBody_252, dX0_runBody_255, dX0_runBody_256, dX0_runBody_257, dX0_runBody_258, dX0_runBody_259, dX0_runBody_260, dX0_runBody_261, dX0_runBody_262, dX0_runBody_264, dX0_runBody_267, dX0_runBody_268, dX0_runBody_269, dX0_runBody_270, dX0_runBody_271, dX0_runBody_272, dX0_runBody_273, dX0_runBody_274, dX0_runBody_275, dX0_runBody_278, dX0_runBody_279, dX0_runBody_281, dX0_runBody_284, dX0_runBody_285, dX0_runBody_286, pX0_bodyFor_e, fX0_bodyFor_e, Option.toList_some, Option.toList_none, List.cons_append, List.nil_append, pX0_note_e, fX0_note_e, ofI_20, ofI_0, ofI_1, ofI_m2, ofI_m1, ofI_2, ofI_3, ofI_4, ofI_5, ofI_6, ofI_7, ofI_8, ofI_9, ofI_10, ofI_11, cRB_42, cRB_46, cRB_28, h0, h1, h2, pX0_bodyFor_e, fX0_bodyFor_e, pX0_note_e, fX0_note_e, fRB_e, Option.toList_some, Option.toList_none, List.cons_append, List.nil_append, List.length_cons, List.length_nil, xsrt]
  simp only [ofI_10, ofI_11, ofI_12, ofI_20, ofI_30, ofI_40, ofI_50, ofI_51, ofI_60, ofI_70, ofI_71]
  generalize bfV fr ac = b at *
  generalize ntS σ b = τ at *
  have d : ∀ (p : Prop), (True → p) = p := fun p => propext ⟨fun h => h trivial, fun h _ => h⟩
  by_cases h10 : b = 10
  · simp (decide := true) only [h10, hR, ↓reduceIte, true_implies, false_implies, not_true_eq_false, not_false_eq_true, and_true, true_and, and_self, implies_true, d]
  by_cases h11 : b = 11
  · simp (decide := true) only [h11, hR, ↓reduceIte, true_implies, false_implies, not_true_eq_false, not_false_eq_true, and_true, true_and, and_self, implies_true, d]
  by_cases h12 : b = 12
  · simp (decide := true) only [h12, hR, ↓reduceIte, true_implies, false_implies, not_true_eq_false, not_false_eq_true, and_true, true_and, and_self, implies_true, d]
  by_cases h20 : b = 20
  · simp (decide := true) only [h20, hR, ↓reduceIte, true_implies, false_implies, not_true_eq_false, not_false_eq_true, and_true, true_and, and_self, implies_true, d]
  by_cases h30 : b = 30
  · simp (decide := true) only [h30, hR, ↓reduceIte, true_implies, false_implies, not_true_eq_false, not_false_eq_true, and_true, true_and, and_self, implies_true, d]
  by_cases h40 : b = 40
  · simp (decide := true) only [h40, hR, ↓reduceIte, true_implies, false_implies, not_true_eq_false, not_false_eq_true, and_true, true_and, and_self, implies_true, d]
  by_cases h50 : b = 50
  · simp (decide := true) only [h50, hR, ↓reduceIte, true_implies, false_implies, not_true_eq_false, not_false_eq_true, and_true, true_and, and_self, implies_true, d]
  by_cases h51 : b = 51
  · simp (decide := true) only [h51, hR, ↓reduceIte, true_implies, false_implies, not_true_eq_false, not_false_eq_true, and_true, true_and, and_self, implies_true, d]
  by_cases h60 : b = 60
  · simp (decide := true) only [h60, hR, ↓reduceIte, true_implies, false_implies, not_true_eq_false, not_false_eq_true, and_true, true_and, and_self, implies_true, d]
  by_cases h70 : b = 70
  · simp (decide := true) only [h70, hR, ↓reduceIte, true_implies, false_implies, not_true_eq_false, not_false_eq_true, and_true, true_and, and_self, implies_true, d]
  by_cases h71 : b = 71
  · simp (decide := true) only [h71, hR, ↓reduceIte, true_implies, false_implies, not_true_eq_false, not_false_eq_true, and_true, true_and, and_self, implies_true, d]
  simp (decide := true) only [h10, h11, h12, h20, h30, h40, h50, h51, h60, h70, h71, hR, ↓reduceIte, true_implies, false_implies, not_true_eq_false, not_false_eq_true, and_true, true_and, and_self, implies_true, d]
theorem mRB : ∀ k, k ≤ 21 → xMet WX yX0_runBody cX0_runBody 7 (some .int) (k + 3) (pRB k) (fRB k)
  | 0, _ => mRB0
  | k + 1, h => mRBs h (mRB k (by omega))
def rbX (σ : xS) (fr ac x : Int32) : Int32 := (rbF 21 σ fr ac x).1
def rbS' (σ : xS) (fr ac x : Int32) : xS := (rbF 21 σ fr ac x).2
def pX0_runBody (as : List Value) (_ : xS) : Prop := ∃ fr ac x : Int32, as = [.ref 4, .int fr, .int ac, .int x, .int 0]
def fX0_runBody (as : List Value) (σ : xS) : Option Value × xS := match as with
  | [.ref 4, .int fr, .int ac, .int x, .int _] => (some (.int (rbX σ fr ac x)), rbS' σ fr ac x)
  | _ => (none, σ)
theorem pX0_runBody_e {fr ac x : Int32} {σ : xS} : pX0_runBody [.ref 4, .int fr, .int ac, .int x, .int 0] σ = True := eq_true ⟨fr, ac, x, rfl⟩
theorem fX0_runBody_e {fr ac x d : Int32} {σ : xS} : fX0_runBody [.ref 4, .int fr, .int ac, .int x, .int d] σ = (some (.int (rbX σ fr ac x)), rbS' σ fr ac x) := rfl
theorem mX0_runBody : xMet WX yX0_runBody cX0_runBody 7 (some .int) 24 pX0_runBody fX0_runBody := mRB 21 (Nat.le_refl _)
def pX0_perform (as : List Value) (σ : xS) : Prop := ∃ (k : Int32) (n : Int32) (a : Int32) (t : Int32) (x : Int32), as = [.ref 4, .int k, .int n, .int a, .int t, .int x] ∧ (True)
def fX0_perform (as : List Value) (σ : xS) : Option Value × xS := match as with
  | [.ref 4, .int k, .int n, .int a, .int t, .int x] => (some (.int (rbX (xI (xI (xI σ 4 1 k) 4 2 n) 4 3 a) k t x)), rbS' (xI (xI (xI σ 4 1 k) 4 2 n) 4 3 a) k t x)
  | _ => (none, σ)
theorem pX0_perform_e {k : Int32} {n : Int32} {a : Int32} {t : Int32} {x : Int32} {σ : xS} : pX0_perform [.ref 4, .int k, .int n, .int a, .int t, .int x] σ = (True) := propext ⟨fun h => by obtain ⟨k, n, a, t, x, e, h⟩ := h; cases e; exact h, fun h => ⟨k, n, a, t, x, rfl, h⟩⟩
theorem fX0_perform_e {k : Int32} {n : Int32} {a : Int32} {t : Int32} {x : Int32} {σ : xS} : fX0_perform [.ref 4, .int k, .int n, .int a, .int t, .int x] σ = (some (.int (rbX (xI (xI (xI σ 4 1 k) 4 2 n) 4 3 a) k t x)), rbS' (xI (xI (xI σ 4 1 k) 4 2 n) 4 3 a) k t x) := rfl
def calX0_perform : List (Nat × xCall) := [(28, (true, 5, pX0_runBody, fX0_runBody))]
theorem c_X0_perform_28 : xlk calX0_perform 28 = some (true, 5, pX0_runBody, fX0_runBody) := rfl
set_option maxHeartbeats 4000000 in
set_option maxRecDepth 100000 in
theorem mX0_perform : xMet WX yX0_perform cX0_perform 6 (some .int) 25 pX0_perform fX0_perform := by
  refine xMet_of (fld := xlk fldX0) (cal := xlk calX0_perform) (ks := xlk []) (gs := xlk []) (ro := fun _ => none) 0 (by decide) WX_nd rfl fldX0_ok xKs_nil xGs_nil (Or.inr rfl) (xcal_cons (xCk_S mX0_runBody (by decide) (by decide) w_X0_28 ⟨by decide, by decide, by decide +kernel⟩) xcal_nil) ?_ ?_
  · rintro av σ ⟨k, n, a, t, x, rfl, hpre⟩
    exact Nat.le_of_ble_eq_true rfl
  rintro av σ ⟨k, n, a, t, x, rfl, hp1⟩ Rt hR
  refine xgo0 19 ?_
  simp (config := {maxSteps := 2000000}) only [xwp_2, xwp_0, xwp_1, xws_s, xdd_o, xld_0, xld_s, xs1_0, xs1_1, xs1_s, xs2_0, xs2_1, xs2_s, xlg_n, xlg_i, xlg_r, xlg_z, xlg_l, xf4_0, xf4_1, xf4_2, xf4_3, xgo_e, xcmp_eq, xcmp_ne, xcmp_lt, xcmp_ge, xcmp_gt, xcmp_le, xfg_0, xfg_1, xfg_2, xfg_3, xfg_4, xpop_0, xpop_s, xsw_n, xsw_c, xtb_n, xtb_c, xenp_n, xenp_i, xenp_r, xenp_z, xenp_l, xrep_0, xrep_s, Nat.reduceSub, true_and, and_true, cat_i, cat_r, Nat.reduceAdd, Nat.reduceLT, Nat.reduceLeDiff, Nat.reduceEqDiff, xnc, Int.reduceAdd, Int.reduceSub, Int.reduceNeg, Int.reduceLE, Int.reduceLT, Int.reduceToNat, ↓reduceIte, List.length_cons, List.length_nil, xlc0, xlc1, ite_10, i10, i01, i0_2, i0_3, i0_4, i0_6, i0_7, i0_8, i0_49, i0_10, or_true, true_or, or_false, false_or, not_false_eq_true, not_true_eq_false, xnt, xI_g, eq_self, xI_2, xJ_1, false_and, and_false, obT_t, obS_t, ob6_t, ob2_t, ob0_t, kT1_t, kT2_t, kT3_t, kT4_t, lT1, lT2, rT6, rT7, rT8, rT9, rT1i, rT2i, rS2, kSe_t, lSe, r0_0, r0_1, r0_2, r0_3, r0_4, r0_5, r0_6, r0_7, r0_8, r0_9, r1_i, r2_4, r2_5, r4_4, a1_t, a3_t, a5_t, a6_t, a7_t, a8_t, l1, l3, l5, l6, l7, l8, T1, T2, T3, T4, nI8, nI6, nI160, nI20, nI401, nI49, ob5_t, ob1_t, vp_tn, tn_def, lgc, dX0_perform_0, st_aload_n, dX0_perform_1, st_iload_n, dX0_perform_2, st_putfield, fl_X0_15, dX0_perform_5, dX0_perform_6, dX0_perform_7, fl_X0_18, dX0_perform_10, dX0_perform_11, dX0_perform_12, fl_X0_21, dX0_perform_15, dX0_perform_16, dX0_perform_17, st_getfield, dX0_perform_20, st_iload, dX0_perform_22, dX0_perform_24, st_iconst, dX0_perform_25, st_invokestatic, dX0_perform_28, st_ireturn, c_X0_perform_28, pX0_runBody_e, fX0_runBody_e, Option.toList_some, Option.toList_none, List.cons_append, List.nil_append, ofI_0, hp1]
  try simp only [hR, fX0_perform_e, Option.some.injEq, Value.int.injEq, Value.long.injEq, Value.ref.injEq, and_true, true_and]
  all_goals grind
theorem rX0_perform : ∀ as σ, pX0_perform as σ → ∃ K as', as = .ref K :: as' ∧ xob WX K 0 := by
  rintro as σ ⟨k, n, a, t, x, rfl, hpre⟩
  exact ⟨_, _, rfl, by first | exact hpre | exact hpre.1 | exact obT hpre | exact obT hpre.1 | exact obS hpre | exact obS hpre.1 | exact obM | exact ob6 | exact ob2 | exact ob0⟩
