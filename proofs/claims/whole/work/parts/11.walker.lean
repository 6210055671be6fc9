/-- a town's key -/
def xTw (B : Nat) : Prop := B = 100 ∨ B = 200 ∨ B = 300 ∨ B = 400
theorem obT {B : Nat} (h : xTw B) : xob WX B 4 := by rcases h with rfl | rfl | rfl | rfl <;> exact ⟨by decide, by decide⟩
theorem obM : xob WM 0 7 := ⟨by decide, by decide⟩
def b01 (b : Bool) : Int32 := if b then 1 else 0
def pX5_rememberHow (as : List Value) (σ : xS) : Prop := ∃ (K : Nat), as = [.ref K] ∧ (xob WX K 5)
def fX5_rememberHow (as : List Value) (σ : xS) : Option Value × xS := match as with
  | [.ref K] => (none, xI (xI (xI (xI σ K 8 (σ.1 K 3)) K 9 (σ.1 K 4)) K 10 (σ.1 K 2)) K 11 (σ.1 K 5))
  | _ => (none, σ)
theorem pX5_rememberHow_e {K : Nat} {σ : xS} : pX5_rememberHow [.ref K] σ = (xob WX K 5) := propext ⟨fun h => by obtain ⟨K, e, h⟩ := h; cases e; exact h, fun h => ⟨K, rfl, h⟩⟩
theorem fX5_rememberHow_e {K : Nat} {σ : xS} : fX5_rememberHow [.ref K] σ = (none, xI (xI (xI (xI σ K 8 (σ.1 K 3)) K 9 (σ.1 K 4)) K 10 (σ.1 K 2)) K 11 (σ.1 K 5)) := rfl
def calX5_rememberHow : List (Nat × xCall) := []
set_option maxHeartbeats 4000000 in
set_option maxRecDepth 100000 in
theorem mX5_rememberHow : xMet WX yX5_rememberHow cX5_rememberHow 1 none 1 pX5_rememberHow fX5_rememberHow := by
  refine xMet_of (fld := xlk fldX5) (cal := xlk calX5_rememberHow) (ks := xlk []) (gs := xlk []) (ro := fun _ => none) 4 (by decide) WX_nd rfl fldX5_ok xKs_nil xGs_nil (Or.inr rfl) xcal_nil ?_ ?_
  · rintro av σ ⟨K, rfl, hpre⟩
    exact Nat.le_of_ble_eq_true rfl
  rintro av σ ⟨K, rfl, hpre⟩ Rt hR
  have hp0 := hpre
  refine xgo0 19 ?_
  simp only [xwp_s, xws_s, xcu_n, xcu_s, xdd_o, xno_n, xcut1_e, xld_0, xld_s, xs1_0, xs1_1, xs1_s, xs2_0, xs2_1, xs2_s, xlg_n, xlg_i, xlg_r, xlg_z, xlg_l, xf4_0, xf4_1, xf4_2, xf4_3, xgo_e, xcmp_eq, xcmp_ne, xcmp_lt, xcmp_ge, xcmp_gt, xcmp_le, xfg_0, xfg_1, xfg_2, xfg_3, xfg_4, xpop_0, xpop_s, xsw_n, xsw_c, xtb_n, xtb_c, xen_n, xen_i, xen_r, xen_z, xen_l, true_and, and_true, cat_i, cat_r, Nat.reduceAdd, Nat.reduceLT, Nat.reduceLeDiff, Nat.reduceEqDiff, xnc, Int.reduceAdd, Int.reduceSub, Int.reduceNeg, Int.reduceLE, Int.reduceLT, Int.reduceToNat, reduceIte, List.length_cons, List.length_nil, xlc0, xlc1, i10, i01, i0_2, i0_3, i0_4, i0_6, i0_7, i0_8, i0_49, i0_10, or_true, true_or, or_false, false_or, not_false_eq_true, not_true_eq_false, xnt, xI_g, eq_self, xI_2, xJ_1, false_and, and_false, dX5_rememberHow_0, st_aload_n, dX5_rememberHow_1, dX5_rememberHow_2, st_getfield, fl_X5_21, dX5_rememberHow_5, st_putfield, fl_X5_37, dX5_rememberHow_8, dX5_rememberHow_9, dX5_rememberHow_10, fl_X5_24, dX5_rememberHow_13, fl_X5_40, dX5_rememberHow_16, dX5_rememberHow_17, dX5_rememberHow_18, fl_X5_18, dX5_rememberHow_21, fl_X5_43, dX5_rememberHow_24, dX5_rememberHow_25, dX5_rememberHow_26, fl_X5_27, dX5_rememberHow_29, fl_X5_46, dX5_rememberHow_32, st_return_]
  simp only [hR, fX5_rememberHow_e, Option.some.injEq, Value.int.injEq, Value.long.injEq, Value.ref.injEq, and_true, true_and]
  grind
theorem rX5_rememberHow : ∀ as σ, pX5_rememberHow as σ → ∃ K as', as = .ref K :: as' ∧ xob WX K 5 := by
  rintro as σ ⟨K, rfl, hpre⟩
  exact ⟨_, _, rfl, by first | exact hpre | exact hpre.1 | exact obT hpre | exact obT hpre.1 | exact obM⟩
def pX5_gives (as : List Value) (σ : xS) : Prop := ∃ (K : Nat), as = [.ref K] ∧ (xob WX K 5)
def fX5_gives (as : List Value) (σ : xS) : Option Value × xS := match as with
  | [.ref K] => (some (.int (if σ.1 K 0 = 0 ∨ σ.1 K 0 = 1 ∨ σ.1 K 0 = 5 then 1 else 0)), σ)
  | _ => (none, σ)
theorem pX5_gives_e {K : Nat} {σ : xS} : pX5_gives [.ref K] σ = (xob WX K 5) := propext ⟨fun h => by obtain ⟨K, e, h⟩ := h; cases e; exact h, fun h => ⟨K, rfl, h⟩⟩
theorem fX5_gives_e {K : Nat} {σ : xS} : fX5_gives [.ref K] σ = (some (.int (if σ.1 K 0 = 0 ∨ σ.1 K 0 = 1 ∨ σ.1 K 0 = 5 then 1 else 0)), σ) := rfl
def calX5_gives : List (Nat × xCall) := []
set_option maxHeartbeats 4000000 in
set_option maxRecDepth 100000 in
theorem mX5_gives : xMet WX yX5_gives cX5_gives 1 (some .boolean) 1 pX5_gives fX5_gives := by
  refine xMet_of (fld := xlk fldX5) (cal := xlk calX5_gives) (ks := xlk []) (gs := xlk []) (ro := fun _ => none) 1 (by decide) WX_nd rfl fldX5_ok xKs_nil xGs_nil (Or.inr rfl) xcal_nil ?_ ?_
  · rintro av σ ⟨K, rfl, hpre⟩
    exact Nat.le_of_ble_eq_true rfl
  rintro av σ ⟨K, rfl, hpre⟩ Rt hR
  have hp0 := hpre
  refine xgo0 17 ?_
  simp only [xwp_s, xws_s, xcu_n, xcu_s, xdd_o, xno_n, xcut1_e, xld_0, xld_s, xs1_0, xs1_1, xs1_s, xs2_0, xs2_1, xs2_s, xlg_n, xlg_i, xlg_r, xlg_z, xlg_l, xf4_0, xf4_1, xf4_2, xf4_3, xgo_e, xcmp_eq, xcmp_ne, xcmp_lt, xcmp_ge, xcmp_gt, xcmp_le, xfg_0, xfg_1, xfg_2, xfg_3, xfg_4, xpop_0, xpop_s, xsw_n, xsw_c, xtb_n, xtb_c, xen_n, xen_i, xen_r, xen_z, xen_l, true_and, and_true, cat_i, cat_r, Nat.reduceAdd, Nat.reduceLT, Nat.reduceLeDiff, Nat.reduceEqDiff, xnc, Int.reduceAdd, Int.reduceSub, Int.reduceNeg, Int.reduceLE, Int.reduceLT, Int.reduceToNat, reduceIte, List.length_cons, List.length_nil, xlc0, xlc1, i10, i01, i0_2, i0_3, i0_4, i0_6, i0_7, i0_8, i0_49, i0_10, or_true, true_or, or_false, false_or, not_false_eq_true, not_true_eq_false, xnt, xI_g, eq_self, xI_2, xJ_1, false_and, and_false, dX5_gives_0, st_aload_n, dX5_gives_1, st_getfield, fl_X5_9, dX5_gives_4, st_ifCond, dX5_gives_7, dX5_gives_8, dX5_gives_11, st_iconst, dX5_gives_12, st_if_icmp, dX5_gives_15, dX5_gives_16, dX5_gives_19, dX5_gives_20, dX5_gives_23, dX5_gives_24, st_goto, dX5_gives_27, dX5_gives_28, st_ireturn, ofI_1, ofI_5, ofI_0]
  simp only [hR, fX5_gives_e, Option.some.injEq, Value.int.injEq, Value.long.injEq, Value.ref.injEq, and_true, true_and]
  grind
theorem rX5_gives : ∀ as σ, pX5_gives as σ → ∃ K as', as = .ref K :: as' ∧ xob WX K 5 := by
  rintro as σ ⟨K, rfl, hpre⟩
  exact ⟨_, _, rfl, by first | exact hpre | exact hpre.1 | exact obT hpre | exact obT hpre.1 | exact obM⟩
def pX5_turn (as : List Value) (σ : xS) : Prop := ∃ (K : Nat) (q : Int32), as = [.ref K, .int q] ∧ (xob WX K 5)
def fX5_turn (as : List Value) (σ : xS) : Option Value × xS := match as with
  | [.ref K, .int q] => (none, xI σ K 2 (xrem (σ.1 K 2 + (if σ.1 K 5 = 1 then 4 - q else q)) 4))
  | _ => (none, σ)
theorem pX5_turn_e {K : Nat} {q : Int32} {σ : xS} : pX5_turn [.ref K, .int q] σ = (xob WX K 5) := propext ⟨fun h => by obtain ⟨K, q, e, h⟩ := h; cases e; exact h, fun h => ⟨K, q, rfl, h⟩⟩
theorem fX5_turn_e {K : Nat} {q : Int32} {σ : xS} : fX5_turn [.ref K, .int q] σ = (none, xI σ K 2 (xrem (σ.1 K 2 + (if σ.1 K 5 = 1 then 4 - q else q)) 4)) := rfl
def calX5_turn : List (Nat × xCall) := []
set_option maxHeartbeats 4000000 in
set_option maxRecDepth 100000 in
theorem mX5_turn : xMet WX yX5_turn cX5_turn 2 none 1 pX5_turn fX5_turn := by
  refine xMet_of (fld := xlk fldX5) (cal := xlk calX5_turn) (ks := xlk []) (gs := xlk []) (ro := fun _ => none) 4 (by decide) WX_nd rfl fldX5_ok xKs_nil xGs_nil (Or.inr rfl) xcal_nil ?_ ?_
  · rintro av σ ⟨K, q, rfl, hpre⟩
    exact Nat.le_of_ble_eq_true rfl
  rintro av σ ⟨K, q, rfl, hpre⟩ Rt hR
  have hp0 := hpre
  refine xgo0 19 ?_
  simp only [xwp_s, xws_s, xcu_n, xcu_s, xdd_o, xno_n, xcut1_e, xld_0, xld_s, xs1_0, xs1_1, xs1_s, xs2_0, xs2_1, xs2_s, xlg_n, xlg_i, xlg_r, xlg_z, xlg_l, xf4_0, xf4_1, xf4_2, xf4_3, xgo_e, xcmp_eq, xcmp_ne, xcmp_lt, xcmp_ge, xcmp_gt, xcmp_le, xfg_0, xfg_1, xfg_2, xfg_3, xfg_4, xpop_0, xpop_s, xsw_n, xsw_c, xtb_n, xtb_c, xen_n, xen_i, xen_r, xen_z, xen_l, true_and, and_true, cat_i, cat_r, Nat.reduceAdd, Nat.reduceLT, Nat.reduceLeDiff, Nat.reduceEqDiff, xnc, Int.reduceAdd, Int.reduceSub, Int.reduceNeg, Int.reduceLE, Int.reduceLT, Int.reduceToNat, reduceIte, List.length_cons, List.length_nil, xlc0, xlc1, i10, i01, i0_2, i0_3, i0_4, i0_6, i0_7, i0_8, i0_49, i0_10, or_true, true_or, or_false, false_or, not_false_eq_true, not_true_eq_false, xnt, xI_g, eq_self, xI_2, xJ_1, false_and, and_false, dX5_turn_0, st_aload_n, dX5_turn_1, dX5_turn_2, st_getfield, fl_X5_18, dX5_turn_5, dX5_turn_6, fl_X5_27, dX5_turn_9, st_iconst, dX5_turn_10, st_if_icmp, dX5_turn_13, dX5_turn_14, st_iload_n, dX5_turn_15, st_isub, dX5_turn_16, st_goto, dX5_turn_19, dX5_turn_20, st_iadd, dX5_turn_21, dX5_turn_22, st_irem, dX5_turn_23, st_putfield, dX5_turn_26, st_return_, ofI_1, ofI_4]
  simp only [hR, fX5_turn_e, Option.some.injEq, Value.int.injEq, Value.long.injEq, Value.ref.injEq, and_true, true_and]
  grind
theorem rX5_turn : ∀ as σ, pX5_turn as σ → ∃ K as', as = .ref K :: as' ∧ xob WX K 5 := by
  rintro as σ ⟨K, q, rfl, hpre⟩
  exact ⟨_, _, rfl, by first | exact hpre | exact hpre.1 | exact obT hpre | exact obT hpre.1 | exact obM⟩
def pX5_wouldTake (as : List Value) (σ : xS) : Prop := ∃ (K : Nat) (g : Int32), as = [.ref K, .int g] ∧ (xob WX K 5)
def fX5_wouldTake (as : List Value) (σ : xS) : Option Value × xS := match as with
  | [.ref K, .int g] => (some (.int (if (if σ.1 K 0 = 6 then σ.1 K 3 < g else σ.1 K 0 = 0 ∨ σ.1 K 0 = 3 ∨ σ.1 K 0 = 4) then 1 else 0)), σ)
  | _ => (none, σ)
theorem pX5_wouldTake_e {K : Nat} {g : Int32} {σ : xS} : pX5_wouldTake [.ref K, .int g] σ = (xob WX K 5) := propext ⟨fun h => by obtain ⟨K, g, e, h⟩ := h; cases e; exact h, fun h => ⟨K, g, rfl, h⟩⟩
theorem fX5_wouldTake_e {K : Nat} {g : Int32} {σ : xS} : fX5_wouldTake [.ref K, .int g] σ = (some (.int (if (if σ.1 K 0 = 6 then σ.1 K 3 < g else σ.1 K 0 = 0 ∨ σ.1 K 0 = 3 ∨ σ.1 K 0 = 4) then 1 else 0)), σ) := rfl
def calX5_wouldTake : List (Nat × xCall) := []
set_option maxHeartbeats 4000000 in
set_option maxRecDepth 100000 in
theorem mX5_wouldTake : xMet WX yX5_wouldTake cX5_wouldTake 2 (some .boolean) 1 pX5_wouldTake fX5_wouldTake := by
  refine xMet_of (fld := xlk fldX5) (cal := xlk calX5_wouldTake) (ks := xlk []) (gs := xlk []) (ro := fun _ => none) 1 (by decide) WX_nd rfl fldX5_ok xKs_nil xGs_nil (Or.inr rfl) xcal_nil ?_ ?_
  · rintro av σ ⟨K, g, rfl, hpre⟩
    exact Nat.le_of_ble_eq_true rfl
  rintro av σ ⟨K, g, rfl, hpre⟩ Rt hR
  have hp0 := hpre
  refine xgo0 29 ?_
  simp only [xwp_s, xws_s, xcu_n, xcu_s, xdd_o, xno_n, xcut1_e, xld_0, xld_s, xs1_0, xs1_1, xs1_s, xs2_0, xs2_1, xs2_s, xlg_n, xlg_i, xlg_r, xlg_z, xlg_l, xf4_0, xf4_1, xf4_2, xf4_3, xgo_e, xcmp_eq, xcmp_ne, xcmp_lt, xcmp_ge, xcmp_gt, xcmp_le, xfg_0, xfg_1, xfg_2, xfg_3, xfg_4, xpop_0, xpop_s, xsw_n, xsw_c, xtb_n, xtb_c, xen_n, xen_i, xen_r, xen_z, xen_l, true_and, and_true, cat_i, cat_r, Nat.reduceAdd, Nat.reduceLT, Nat.reduceLeDiff, Nat.reduceEqDiff, xnc, Int.reduceAdd, Int.reduceSub, Int.reduceNeg, Int.reduceLE, Int.reduceLT, Int.reduceToNat, reduceIte, List.length_cons, List.length_nil, xlc0, xlc1, i10, i01, i0_2, i0_3, i0_4, i0_6, i0_7, i0_8, i0_49, i0_10, or_true, true_or, or_false, false_or, not_false_eq_true, not_true_eq_false, xnt, xI_g, eq_self, xI_2, xJ_1, false_and, and_false, dX5_wouldTake_0, st_aload_n, dX5_wouldTake_1, st_getfield, fl_X5_9, dX5_wouldTake_4, st_bipush, dX5_wouldTake_6, st_if_icmp, dX5_wouldTake_9, st_iload_n, dX5_wouldTake_10, dX5_wouldTake_11, fl_X5_21, dX5_wouldTake_14, dX5_wouldTake_17, st_iconst, dX5_wouldTake_18, st_goto, dX5_wouldTake_21, dX5_wouldTake_22, st_ireturn, dX5_wouldTake_23, dX5_wouldTake_24, dX5_wouldTake_27, st_ifCond, dX5_wouldTake_30, dX5_wouldTake_31, dX5_wouldTake_34, dX5_wouldTake_35, dX5_wouldTake_38, dX5_wouldTake_39, dX5_wouldTake_42, dX5_wouldTake_43, dX5_wouldTake_46, dX5_wouldTake_47, dX5_wouldTake_50, dX5_wouldTake_51, ofI_6, ofI_1, ofI_0, ofI_3, ofI_4]
  simp only [hR, fX5_wouldTake_e, Option.some.injEq, Value.int.injEq, Value.long.injEq, Value.ref.injEq, and_true, true_and]
  grind
theorem rX5_wouldTake : ∀ as σ, pX5_wouldTake as σ → ∃ K as', as = .ref K :: as' ∧ xob WX K 5 := by
  rintro as σ ⟨K, g, rfl, hpre⟩
  exact ⟨_, _, rfl, by first | exact hpre | exact hpre.1 | exact obT hpre | exact obT hpre.1 | exact obM⟩
def pX5_told (as : List Value) (σ : xS) : Prop := ∃ (K : Nat) (x : Int32), as = [.ref K, .int x] ∧ (xob WX K 5)
def fX5_told (as : List Value) (σ : xS) : Option Value × xS := match as with
  | [.ref K, .int x] => (some (.int (if x = 0 then σ.1 K 0 else if x = 1 then σ.1 K 1 else if x = 2 then σ.1 K 2 else if x = 3 then σ.1 K 3 else if x = 4 then σ.1 K 4 else if x = 5 then σ.1 K 5 else σ.1 K 6)), σ)
  | _ => (none, σ)
theorem pX5_told_e {K : Nat} {x : Int32} {σ : xS} : pX5_told [.ref K, .int x] σ = (xob WX K 5) := propext ⟨fun h => by obtain ⟨K, x, e, h⟩ := h; cases e; exact h, fun h => ⟨K, x, rfl, h⟩⟩
theorem fX5_told_e {K : Nat} {x : Int32} {σ : xS} : fX5_told [.ref K, .int x] σ = (some (.int (if x = 0 then σ.1 K 0 else if x = 1 then σ.1 K 1 else if x = 2 then σ.1 K 2 else if x = 3 then σ.1 K 3 else if x = 4 then σ.1 K 4 else if x = 5 then σ.1 K 5 else σ.1 K 6)), σ) := rfl
def calX5_told : List (Nat × xCall) := []
set_option maxHeartbeats 4000000 in
set_option maxRecDepth 100000 in
theorem mX5_told : xMet WX yX5_told cX5_told 2 (some .int) 1 pX5_told fX5_told := by
  refine xMet_of (fld := xlk fldX5) (cal := xlk calX5_told) (ks := xlk []) (gs := xlk []) (ro := fun _ => none) 0 (by decide) WX_nd rfl fldX5_ok xKs_nil xGs_nil (Or.inr rfl) xcal_nil ?_ ?_
  · rintro av σ ⟨K, x, rfl, hpre⟩
    exact Nat.le_of_ble_eq_true rfl
  rintro av σ ⟨K, x, rfl, hpre⟩ Rt hR
  have hp0 := hpre
  refine xgo0 25 ?_
  simp only [xwp_s, xws_s, xcu_n, xcu_s, xdd_o, xno_n, xcut1_e, xld_0, xld_s, xs1_0, xs1_1, xs1_s, xs2_0, xs2_1, xs2_s, xlg_n, xlg_i, xlg_r, xlg_z, xlg_l, xf4_0, xf4_1, xf4_2, xf4_3, xgo_e, xcmp_eq, xcmp_ne, xcmp_lt, xcmp_ge, xcmp_gt, xcmp_le, xfg_0, xfg_1, xfg_2, xfg_3, xfg_4, xpop_0, xpop_s, xsw_n, xsw_c, xtb_n, xtb_c, xen_n, xen_i, xen_r, xen_z, xen_l, true_and, and_true, cat_i, cat_r, Nat.reduceAdd, Nat.reduceLT, Nat.reduceLeDiff, Nat.reduceEqDiff, xnc, Int.reduceAdd, Int.reduceSub, Int.reduceNeg, Int.reduceLE, Int.reduceLT, Int.reduceToNat, reduceIte, List.length_cons, List.length_nil, xlc0, xlc1, i10, i01, i0_2, i0_3, i0_4, i0_6, i0_7, i0_8, i0_49, i0_10, or_true, true_or, or_false, false_or, not_false_eq_true, not_true_eq_false, xnt, xI_g, eq_self, xI_2, xJ_1, false_and, and_false, dX5_told_0, st_iload_n, dX5_told_1, st_tableswitch, dX5_told_40, st_aload_n, dX5_told_41, st_getfield, fl_X5_9, dX5_told_44, st_ireturn, dX5_told_45, dX5_told_46, fl_X5_15, dX5_told_49, dX5_told_50, dX5_told_51, fl_X5_18, dX5_told_54, dX5_told_55, dX5_told_56, fl_X5_21, dX5_told_59, dX5_told_60, dX5_told_61, fl_X5_24, dX5_told_64, dX5_told_65, dX5_told_66, fl_X5_27, dX5_told_69, dX5_told_70, dX5_told_71, fl_X5_30, dX5_told_74, ofI_m2, ofI_m1, ofI_0, ofI_1, ofI_2, ofI_3, ofI_4, ofI_5, ofI_6, ofI_7, ofI_8, ofI_9, ofI_10, ofI_11]
  simp only [hR, fX5_told_e, Option.some.injEq, Value.int.injEq, Value.long.injEq, Value.ref.injEq, and_true, true_and]
  grind
theorem rX5_told : ∀ as σ, pX5_told as σ → ∃ K as', as = .ref K :: as' ∧ xob WX K 5 := by
  rintro as σ ⟨K, x, rfl, hpre⟩
  exact ⟨_, _, rfl, by first | exact hpre | exact hpre.1 | exact obT hpre | exact obT hpre.1 | exact obM⟩
