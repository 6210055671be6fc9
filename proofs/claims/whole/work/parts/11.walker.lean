def pX5_rememberHow (as : List Value) (σ : xS) : Prop := ∃ (K : Nat), as = [.ref K] ∧ (xob WX K 5)
def fX5_rememberHow (as : List Value) (σ : xS) : Option Value × xS := match as with
  | [.ref K] => (none, xI (xI (xI (xI σ K 8 (σ.1 K 3)) K 9 (σ.1 K 4)) K 10 (σ.1 K 2)) K 11 (σ.1 K 5))
  | _ => (none, σ)
theorem pX5_rememberHow_e {K : Nat} {σ : xS} : pX5_rememberHow [.ref K] σ = (xob WX K 5) := propext ⟨fun h => by obtain ⟨K, e, h⟩ := h; cases e; exact h, fun h => ⟨K, rfl, h⟩⟩
theorem fX5_rememberHow_e {K : Nat} {σ : xS} : fX5_rememberHow [.ref K] σ = (none, xI (xI (xI (xI σ K 8 (σ.1 K 3)) K 9 (σ.1 K 4)) K 10 (σ.1 K 2)) K 11 (σ.1 K 5)) := rfl
def calX5_rememberHow : List (Nat × xCall) := []
set_option maxHeartbeats 4000000 in
set_option maxRecDepth 100000 in
theorem mX5_rememberHow : xMet WX yX5_rememberHow cX5_rememberHow 1 none 1 pX5_rememberHow fX5_rememberHow := by
  refine xMet_of (fld := xlk fldX5) (cal := xlk calX5_rememberHow) (ks := xlk []) (gs := xlk []) (ro := fun _ => none) 4 (by decide) WX_nd rfl fldX5_ok xKs_nil xGs_nil (Or.inr rfl) xcal_nil ?_ ?_
  · rintro av σ ⟨K, rfl, hpre⟩
    exact Nat.le_of_ble_eq_true rfl
  rintro av σ ⟨K, rfl, hp1⟩ Rt hR
  refine xgo0 19 ?_
  simp (config := {maxSteps := 2000000}) only [xwp_0, xwp_1, xws_s, xdd_o, xld_0, xld_s, xs1_0, xs1_1, xs1_s, xs2_0, xs2_1, xs2_s, xlg_n, xlg_i, xlg_r, xlg_z, xlg_l, xf4_0, xf4_1, xf4_2, xf4_3, xgo_e, xcmp_eq, xcmp_ne, xcmp_lt, xcmp_ge, xcmp_gt, xcmp_le, xfg_0, xfg_1, xfg_2, xfg_3, xfg_4, xpop_0, xpop_s, xsw_n, xsw_c, xtb_n, xtb_c, xenp_n, xenp_i, xenp_r, xenp_z, xenp_l, xrep_0, xrep_s, Nat.reduceSub, true_and, and_true, cat_i, cat_r, Nat.reduceAdd, Nat.reduceLT, Nat.reduceLeDiff, Nat.reduceEqDiff, xnc, Int.reduceAdd, Int.reduceSub, Int.reduceNeg, Int.reduceLE, Int.reduceLT, Int.reduceToNat, ↓reduceIte, List.length_cons, List.length_nil, xlc0, xlc1, ite_10, i10, i01, i0_2, i0_3, i0_4, i0_6, i0_7, i0_8, i0_49, i0_10, or_true, true_or, or_false, false_or, not_false_eq_true, not_true_eq_false, xnt, xI_g, eq_self, xI_2, xJ_1, false_and, and_false, obT_t, obS_t, ob6_t, ob2_t, ob0_t, kT1_t, kT2_t, kT3_t, kT4_t, lT1, lT2, rT6, rT7, rT8, rT9, rT1i, rT2i, rS2, kSe_t, lSe, r0_0, r0_1, r0_2, r0_3, r0_4, r0_5, r0_6, r0_7, r0_8, r0_9, r1_i, r2_4, r2_5, r4_4, a1_t, a3_t, a5_t, a6_t, a7_t, a8_t, l1, l3, l5, l6, l7, l8, T1, T2, T3, T4, nI8, nI6, nI160, nI20, nI401, nI49, ob5_t, ob1_t, vp_tn, tn_def, lgc, dX5_rememberHow_0, st_aload_n, dX5_rememberHow_1, dX5_rememberHow_2, st_getfield, fl_X5_21, dX5_rememberHow_5, st_putfield, fl_X5_37, dX5_rememberHow_8, dX5_rememberHow_9, dX5_rememberHow_10, fl_X5_24, dX5_rememberHow_13, fl_X5_40, dX5_rememberHow_16, dX5_rememberHow_17, dX5_rememberHow_18, fl_X5_18, dX5_rememberHow_21, fl_X5_43, dX5_rememberHow_24, dX5_rememberHow_25, dX5_rememberHow_26, fl_X5_27, dX5_rememberHow_29, fl_X5_46, dX5_rememberHow_32, st_return_, hp1]
  try simp only [hR, fX5_rememberHow_e, Option.some.injEq, Value.int.injEq, Value.long.injEq, Value.ref.injEq, and_true, true_and]
  all_goals grind
theorem rX5_rememberHow : ∀ as σ, pX5_rememberHow as σ → ∃ K as', as = .ref K :: as' ∧ xob WX K 5 := by
  rintro as σ ⟨K, rfl, hpre⟩
  exact ⟨_, _, rfl, by first | exact hpre | exact hpre.1 | exact obT hpre | exact obT hpre.1 | exact obS hpre | exact obS hpre.1 | exact obM | exact ob6 | exact ob2 | exact ob0⟩
def pX5_gives (as : List Value) (σ : xS) : Prop := ∃ (K : Nat), as = [.ref K] ∧ (xob WX K 5)
def fX5_gives (as : List Value) (σ : xS) : Option Value × xS := match as with
  | [.ref K] => (some (.int (if σ.1 K 0 = 0 ∨ σ.1 K 0 = 1 ∨ σ.1 K 0 = 5 then 1 else 0)), σ)
  | _ => (none, σ)
theorem pX5_gives_e {K : Nat} {σ : xS} : pX5_gives [.ref K] σ = (xob WX K 5) := propext ⟨fun h => by obtain ⟨K, e, h⟩ := h; cases e; exact h, fun h => ⟨K, rfl, h⟩⟩
theorem fX5_gives_e {K : Nat} {σ : xS} : fX5_gives [.ref K] σ = (some (.int (if σ.1 K 0 = 0 ∨ σ.1 K 0 = 1 ∨ σ.1 K 0 = 5 then 1 else 0)), σ) := rfl
def calX5_gives : List (Nat × xCall) := []
set_option maxHeartbeats 4000000 in
set_option maxRecDepth 100000 in
theorem mX5_gives : xMet WX yX5_gives cX5_gives 1 (some .boolean) 1 pX5_gives fX5_gives := by
  refine xMet_of (fld := xlk fldX5) (cal := xlk calX5_gives) (ks := xlk []) (gs := xlk []) (ro := fun _ => none) 1 (by decide) WX_nd rfl fldX5_ok xKs_nil xGs_nil (Or.inr rfl) xcal_nil ?_ ?_
  · rintro av σ ⟨K, rfl, hpre⟩
    exact Nat.le_of_ble_eq_true rfl
  rintro av σ ⟨K, rfl, hp1⟩ Rt hR
  refine xgo0 17 ?_
  simp (config := {maxSteps := 2000000}) only [xwp_0, xwp_1, xws_s, xdd_o, xld_0, xld_s, xs1_0, xs1_1, xs1_s, xs2_0, xs2_1, xs2_s, xlg_n, xlg_i, xlg_r, xlg_z, xlg_l, xf4_0, xf4_1, xf4_2, xf4_3, xgo_e, xcmp_eq, xcmp_ne, xcmp_lt, xcmp_ge, xcmp_gt, xcmp_le, xfg_0, xfg_1, xfg_2, xfg_3, xfg_4, xpop_0, xpop_s, xsw_n, xsw_c, xtb_n, xtb_c, xenp_n, xenp_i, xenp_r, xenp_z, xenp_l, xrep_0, xrep_s, Nat.reduceSub, true_and, and_true, cat_i, cat_r, Nat.reduceAdd, Nat.reduceLT, Nat.reduceLeDiff, Nat.reduceEqDiff, xnc, Int.reduceAdd, Int.reduceSub, Int.reduceNeg, Int.reduceLE, Int.reduceLT, Int.reduceToNat, ↓reduceIte, List.length_cons, List.length_nil, xlc0, xlc1, ite_10, i10, i01, i0_2, i0_3, i0_4, i0_6, i0_7, i0_8, i0_49, i0_10, or_true, true_or, or_false, false_or, not_false_eq_true, not_true_eq_false, xnt, xI_g, eq_self, xI_2, xJ_1, false_and, and_false, obT_t, obS_t, ob6_t, ob2_t, ob0_t, kT1_t, kT2_t, kT3_t, kT4_t, lT1, lT2, rT6, rT7, rT8, rT9, rT1i, rT2i, rS2, kSe_t, lSe, r0_0, r0_1, r0_2, r0_3, r0_4, r0_5, r0_6, r0_7, r0_8, r0_9, r1_i, r2_4, r2_5, r4_4, a1_t, a3_t, a5_t, a6_t, a7_t, a8_t, l1, l3, l5, l6, l7, l8, T1, T2, T3, T4, nI8, nI6, nI160, nI20, nI401, nI49, ob5_t, ob1_t, vp_tn, tn_def, lgc, dX5_gives_0, st_aload_n, dX5_gives_1, st_getfield, fl_X5_9, dX5_gives_4, st_ifCond, dX5_gives_7, dX5_gives_8, dX5_gives_11, st_iconst, dX5_gives_12, st_if_icmp, dX5_gives_15, dX5_gives_16, dX5_gives_19, dX5_gives_20, dX5_gives_23, dX5_gives_24, st_goto, dX5_gives_27, dX5_gives_28, st_ireturn, ofI_1, ofI_5, ofI_0, hp1]
  try simp only [hR, fX5_gives_e, Option.some.injEq, Value.int.injEq, Value.long.injEq, Value.ref.injEq, and_true, true_and]
  all_goals grind
theorem rX5_gives : ∀ as σ, pX5_gives as σ → ∃ K as', as = .ref K :: as' ∧ xob WX K 5 := by
  rintro as σ ⟨K, rfl, hpre⟩
  exact ⟨_, _, rfl, by first | exact hpre | exact hpre.1 | exact obT hpre | exact obT hpre.1 | exact obS hpre | exact obS hpre.1 | exact obM | exact ob6 | exact ob2 | exact ob0⟩
def pX5_turn (as : List Value) (σ : xS) : Prop := ∃ (K : Nat) (q : Int32), as = [.ref K, .int q] ∧ (xob WX K 5)
def fX5_turn (as : List Value) (σ : xS) : Option Value × xS := match as with
  | [.ref K, .int q] => (none, xI σ K 2 (xrem (σ.1 K 2 + (if σ.1 K 5 = 1 then 4 - q else q)) 4))
  | _ => (none, σ)
theorem pX5_turn_e {K : Nat} {q : Int32} {σ : xS} : pX5_turn [.ref K, .int q] σ = (xob WX K 5) := propext ⟨fun h => by obtain ⟨K, q, e, h⟩ := h; cases e; exact h, fun h => ⟨K, q, rfl, h⟩⟩
theorem fX5_turn_e {K : Nat} {q : Int32} {σ : xS} : fX5_turn [.ref K, .int q] σ = (none, xI σ K 2 (xrem (σ.1 K 2 + (if σ.1 K 5 = 1 then 4 - q else q)) 4)) := rfl
def calX5_turn : List (Nat × xCall) := []
set_option maxHeartbeats 4000000 in
set_option maxRecDepth 100000 in
theorem mX5_turn : xMet WX yX5_turn cX5_turn 2 none 1 pX5_turn fX5_turn := by
  refine xMet_of (fld := xlk fldX5) (cal := xlk calX5_turn) (ks := xlk []) (gs := xlk []) (ro := fun _ => none) 4 (by decide) WX_nd rfl fldX5_ok xKs_nil xGs_nil (Or.inr rfl) xcal_nil ?_ ?_
  · rintro av σ ⟨K, q, rfl, hpre⟩
    exact Nat.le_of_ble_eq_true rfl
  rintro av σ ⟨K, q, rfl, hp1⟩ Rt hR
  refine xgo0 19 ?_
  simp (config := {maxSteps := 2000000}) only [xwp_0, xwp_1, xws_s, xdd_o, xld_0, xld_s, xs1_0, xs1_1, xs1_s, xs2_0, xs2_1, xs2_s, xlg_n, xlg_i, xlg_r, xlg_z, xlg_l, xf4_0, xf4_1, xf4_2, xf4_3, xgo_e, xcmp_eq, xcmp_ne, xcmp_lt, xcmp_ge, xcmp_gt, xcmp_le, xfg_0, xfg_1, xfg_2, xfg_3, xfg_4, xpop_0, xpop_s, xsw_n, xsw_c, xtb_n, xtb_c, xenp_n, xenp_i, xenp_r, xenp_z, xenp_l, xrep_0, xrep_s, Nat.reduceSub, true_and, and_true, cat_i, cat_r, Nat.reduceAdd, Nat.reduceLT, Nat.reduceLeDiff, Nat.reduceEqDiff, xnc, Int.reduceAdd, Int.reduceSub, Int.reduceNeg, Int.reduceLE, Int.reduceLT, Int.reduceToNat, ↓reduceIte, List.length_cons, List.length_nil, xlc0, xlc1, ite_10, i10, i01, i0_2, i0_3, i0_4, i0_6, i0_7, i0_8, i0_49, i0_10, or_true, true_or, or_false, false_or, not_false_eq_true, not_true_eq_false, xnt, xI_g, eq_self, xI_2, xJ_1, false_and, and_false, obT_t, obS_t, ob6_t, ob2_t, ob0_t, kT1_t, kT2_t, kT3_t, kT4_t, lT1, lT2, rT6, rT7, rT8, rT9, rT1i, rT2i, rS2, kSe_t, lSe, r0_0, r0_1, r0_2, r0_3, r0_4, r0_5, r0_6, r0_7, r0_8, r0_9, r1_i, r2_4, r2_5, r4_4, a1_t, a3_t, a5_t, a6_t, a7_t, a8_t, l1, l3, l5, l6, l7, l8, T1, T2, T3, T4, nI8, nI6, nI160, nI20, nI401, nI49, ob5_t, ob1_t, vp_tn, tn_def, lgc, dX5_turn_0, st_aload_n, dX5_turn_1, dX5_turn_2, st_getfield, fl_X5_18, dX5_turn_5, dX5_turn_6, fl_X5_27, dX5_turn_9, st_iconst, dX5_turn_10, st_if_icmp, dX5_turn_13, dX5_turn_14, st_iload_n, dX5_turn_15, st_isub, dX5_turn_16, st_goto, dX5_turn_19, dX5_turn_20, st_iadd, dX5_turn_21, dX5_turn_22, st_irem, dX5_turn_23, st_putfield, dX5_turn_26, st_return_, ofI_1, ofI_4, hp1]
  try simp only [hR, fX5_turn_e, Option.some.injEq, Value.int.injEq, Value.long.injEq, Value.ref.injEq, and_true, true_and]
  all_goals grind
theorem rX5_turn : ∀ as σ, pX5_turn as σ → ∃ K as', as = .ref K :: as' ∧ xob WX K 5 := by
  rintro as σ ⟨K, q, rfl, hpre⟩
  exact ⟨_, _, rfl, by first | exact hpre | exact hpre.1 | exact obT hpre | exact obT hpre.1 | exact obS hpre | exact obS hpre.1 | exact obM | exact ob6 | exact ob2 | exact ob0⟩
def pX5_wouldTake (as : List Value) (σ : xS) : Prop := ∃ (K : Nat) (g : Int32), as = [.ref K, .int g] ∧ (xob WX K 5)
def fX5_wouldTake (as : List Value) (σ : xS) : Option Value × xS := match as with
  | [.ref K, .int g] => (some (.int (if (if σ.1 K 0 = 6 then σ.1 K 3 < g else σ.1 K 0 = 0 ∨ σ.1 K 0 = 3 ∨ σ.1 K 0 = 4) then 1 else 0)), σ)
  | _ => (none, σ)
theorem pX5_wouldTake_e {K : Nat} {g : Int32} {σ : xS} : pX5_wouldTake [.ref K, .int g] σ = (xob WX K 5) := propext ⟨fun h => by obtain ⟨K, g, e, h⟩ := h; cases e; exact h, fun h => ⟨K, g, rfl, h⟩⟩
theorem fX5_wouldTake_e {K : Nat} {g : Int32} {σ : xS} : fX5_wouldTake [.ref K, .int g] σ = (some (.int (if (if σ.1 K 0 = 6 then σ.1 K 3 < g else σ.1 K 0 = 0 ∨ σ.1 K 0 = 3 ∨ σ.1 K 0 = 4) then 1 else 0)), σ) := rfl
def calX5_wouldTake : List (Nat × xCall) := []
set_option maxHeartbeats 4000000 in
set_option maxRecDepth 100000 in
theorem mX5_wouldTake : xMet WX yX5_wouldTake cX5_wouldTake 2 (some .boolean) 1 pX5_wouldTake fX5_wouldTake := by
  refine xMet_of (fld := xlk fldX5) (cal := xlk calX5_wouldTake) (ks := xlk []) (gs := xlk []) (ro := fun _ => none) 1 (by decide) WX_nd rfl fldX5_ok xKs_nil xGs_nil (Or.inr rfl) xcal_nil ?_ ?_
  · rintro av σ ⟨K, g, rfl, hpre⟩
    exact Nat.le_of_ble_eq_true rfl
  rintro av σ ⟨K, g, rfl, hp1⟩ Rt hR
  refine xgo0 29 ?_
  simp (config := {maxSteps := 2000000}) only [xwp_0, xwp_1, xws_s, xdd_o, xld_0, xld_s, xs1_0, xs1_1, xs1_s, xs2_0, xs2_1, xs2_s, xlg_n, xlg_i, xlg_r, xlg_z, xlg_l, xf4_0, xf4_1, xf4_2, xf4_3, xgo_e, xcmp_eq, xcmp_ne, xcmp_lt, xcmp_ge, xcmp_gt, xcmp_le, xfg_0, xfg_1, xfg_2, xfg_3, xfg_4, xpop_0, xpop_s, xsw_n, xsw_c, xtb_n, xtb_c, xenp_n, xenp_i, xenp_r, xenp_z, xenp_l, xrep_0, xrep_s, Nat.reduceSub, true_and, and_true, cat_i, cat_r, Nat.reduceAdd, Nat.reduceLT, Nat.reduceLeDiff, Nat.reduceEqDiff, xnc, Int.reduceAdd, Int.reduceSub, Int.reduceNeg, Int.reduceLE, Int.reduceLT, Int.reduceToNat, ↓reduceIte, List.length_cons, List.length_nil, xlc0, xlc1, ite_10, i10, i01, i0_2, i0_3, i0_4, i0_6, i0_7, i0_8, i0_49, i0_10, or_true, true_or, or_false, false_or, not_false_eq_true, not_true_eq_false, xnt, xI_g, eq_self, xI_2, xJ_1, false_and, and_false, obT_t, obS_t, ob6_t, ob2_t, ob0_t, kT1_t, kT2_t, kT3_t, kT4_t, lT1, lT2, rT6, rT7, rT8, rT9, rT1i, rT2i, rS2, kSe_t, lSe, r0_0, r0_1, r0_2, r0_3, r0_4, r0_5, r0_6, r0_7, r0_8, r0_9, r1_i, r2_4, r2_5, r4_4, a1_t, a3_t, a5_t, a6_t, a7_t, a8_t, l1, l3, l5, l6, l7, l8, T1, T2, T3, T4, nI8, nI6, nI160, nI20, nI401, nI49, ob5_t, ob1_t, vp_tn, tn_def, lgc, dX5_wouldTake_0, st_aload_n, dX5_wouldTake_1, st_getfield, fl_X5_9, dX5_wouldTake_4, st_bipush, dX5_wouldTake_6, st_if_icmp, dX5_wouldTake_9, st_iload_n, dX5_wouldTake_10, dX5_wouldTake_11, fl_X5_21, dX5_wouldTake_14, dX5_wouldTake_17, st_iconst, dX5_wouldTake_18, st_goto, dX5_wouldTake_21, dX5_wouldTake_22, st_ireturn, dX5_wouldTake_23, dX5_wouldTake_24, dX5_wouldTake_27, st_ifCond, dX5_wouldTake_30, dX5_wouldTake_31, dX5_wouldTake_34, dX5_wouldTake_35, dX5_wouldTake_38, dX5_wouldTake_39, dX5_wouldTake_42, dX5_wouldTake_43, dX5_wouldTake_46, dX5_wouldTake_47, dX5_wouldTake_50, dX5_wouldTake_51, ofI_6, ofI_1, ofI_0, ofI_3, ofI_4, hp1]
  try simp only [hR, fX5_wouldTake_e, Option.some.injEq, Value.int.injEq, Value.long.injEq, Value.ref.injEq, and_true, true_and]
  all_goals grind
theorem rX5_wouldTake : ∀ as σ, pX5_wouldTake as σ → ∃ K as', as = .ref K :: as' ∧ xob WX K 5 := by
  rintro as σ ⟨K, g, rfl, hpre⟩
  exact ⟨_, _, rfl, by first | exact hpre | exact hpre.1 | exact obT hpre | exact obT hpre.1 | exact obS hpre | exact obS hpre.1 | exact obM | exact ob6 | exact ob2 | exact ob0⟩
def pX5_told (as : List Value) (σ : xS) : Prop := ∃ (K : Nat) (x : Int32), as = [.ref K, .int x] ∧ (xob WX K 5)
def fX5_told (as : List Value) (σ : xS) : Option Value × xS := match as with
  | [.ref K, .int x] => (some (.int (if x = 0 then σ.1 K 0 else if x = 1 then σ.1 K 1 else if x = 2 then σ.1 K 2 else if x = 3 then σ.1 K 3 else if x = 4 then σ.1 K 4 else if x = 5 then σ.1 K 5 else σ.1 K 6)), σ)
  | _ => (none, σ)
theorem pX5_told_e {K : Nat} {x : Int32} {σ : xS} : pX5_told [.ref K, .int x] σ = (xob WX K 5) := propext ⟨fun h => by obtain ⟨K, x, e, h⟩ := h; cases e; exact h, fun h => ⟨K, x, rfl, h⟩⟩
theorem fX5_told_e {K : Nat} {x : Int32} {σ : xS} : fX5_told [.ref K, .int x] σ = (some (.int (if x = 0 then σ.1 K 0 else if x = 1 then σ.1 K 1 else if x = 2 then σ.1 K 2 else if x = 3 then σ.1 K 3 else if x = 4 then σ.1 K 4 else if x = 5 then σ.1 K 5 else σ.1 K 6)), σ) := rfl
def calX5_told : List (Nat × xCall) := []
set_option maxHeartbeats 4000000 in
set_option maxRecDepth 100000 in
theorem mX5_told : xMet WX yX5_told cX5_told 2 (some .int) 1 pX5_told fX5_told := by
  refine xMet_of (fld := xlk fldX5) (cal := xlk calX5_told) (ks := xlk []) (gs := xlk []) (ro := fun _ => none) 0 (by decide) WX_nd rfl fldX5_ok xKs_nil xGs_nil (Or.inr rfl) xcal_nil ?_ ?_
  · rintro av σ ⟨K, x, rfl, hpre⟩
    exact Nat.le_of_ble_eq_true rfl
  rintro av σ ⟨K, x, rfl, hp1⟩ Rt hR
  refine xgo0 25 ?_
  simp (config := {maxSteps := 2000000}) only [xwp_0, xwp_1, xws_s, xdd_o, xld_0, xld_s, xs1_0, xs1_1, xs1_s, xs2_0, xs2_1, xs2_s, xlg_n, xlg_i, xlg_r, xlg_z, xlg_l, xf4_0, xf4_1, xf4_2, xf4_3, xgo_e, xcmp_eq, xcmp_ne, xcmp_lt, xcmp_ge, xcmp_gt, xcmp_le, xfg_0, xfg_1, xfg_2, xfg_3, xfg_4, xpop_0, xpop_s, xsw_n, xsw_c, xtb_n, xtb_c, xenp_n, xenp_i, xenp_r, xenp_z, xenp_l, xrep_0, xrep_s, Nat.reduceSub, true_and, and_true, cat_i, cat_r, Nat.reduceAdd, Nat.reduceLT, Nat.reduceLeDiff, Nat.reduceEqDiff, xnc, Int.reduceAdd, Int.reduceSub, Int.reduceNeg, Int.reduceLE, Int.reduceLT, Int.reduceToNat, ↓reduceIte, List.length_cons, List.length_nil, xlc0, xlc1, ite_10, i10, i01, i0_2, i0_3, i0_4, i0_6, i0_7, i0_8, i0_49, i0_10, or_true, true_or, or_false, false_or, not_false_eq_true, not_true_eq_false, xnt, xI_g, eq_self, xI_2, xJ_1, false_and, and_false, obT_t, obS_t, ob6_t, ob2_t, ob0_t, kT1_t, kT2_t, kT3_t, kT4_t, lT1, lT2, rT6, rT7, rT8, rT9, rT1i, rT2i, rS2, kSe_t, lSe, r0_0, r0_1, r0_2, r0_3, r0_4, r0_5, r0_6, r0_7, r0_8, r0_9, r1_i, r2_4, r2_5, r4_4, a1_t, a3_t, a5_t, a6_t, a7_t, a8_t, l1, l3, l5, l6, l7, l8, T1, T2, T3, T4, nI8, nI6, nI160, nI20, nI401, nI49, ob5_t, ob1_t, vp_tn, tn_def, lgc, dX5_told_0, st_iload_n, dX5_told_1, st_tableswitch, dX5_told_40, st_aload_n, dX5_told_41, st_getfield, fl_X5_9, dX5_told_44, st_ireturn, dX5_told_45, dX5_told_46, fl_X5_15, dX5_told_49, dX5_told_50, dX5_told_51, fl_X5_18, dX5_told_54, dX5_told_55, dX5_told_56, fl_X5_21, dX5_told_59, dX5_told_60, dX5_told_61, fl_X5_24, dX5_told_64, dX5_told_65, dX5_told_66, fl_X5_27, dX5_told_69, dX5_told_70, dX5_told_71, fl_X5_30, dX5_told_74, ofI_m2, ofI_m1, ofI_0, ofI_1, ofI_2, ofI_3, ofI_4, ofI_5, ofI_6, ofI_7, ofI_8, ofI_9, ofI_10, ofI_11, hp1]
  try simp only [hR, fX5_told_e, Option.some.injEq, Value.int.injEq, Value.long.injEq, Value.ref.injEq, and_true, true_and]
  all_goals grind
theorem rX5_told : ∀ as σ, pX5_told as σ → ∃ K as', as = .ref K :: as' ∧ xob WX K 5 := by
  rintro as σ ⟨K, x, rfl, hpre⟩
  exact ⟨_, _, rfl, by first | exact hpre | exact hpre.1 | exact obT hpre | exact obT hpre.1 | exact obS hpre | exact obS hpre.1 | exact obM | exact ob6 | exact ob2 | exact ob0⟩
def pX5_becomeAs (as : List Value) (σ : xS) : Prop := ∃ (K : Nat) (J : Nat), as = [.ref K, .ref J] ∧ ((xob WX K 5) ∧ (xob WX J 5))
def fX5_becomeAs (as : List Value) (σ : xS) : Option Value × xS := match as with
  | [.ref K, .ref J] => (none, xI (xI (xI (xI (xI (xI (xI σ K 0 (σ.1 J 0)) K 1 (σ.1 J 1)) K 2 (σ.1 J 2)) K 3 (σ.1 J 3)) K 4 (σ.1 J 4)) K 5 (σ.1 J 5)) K 6 (σ.1 J 6))
  | _ => (none, σ)
theorem pX5_becomeAs_e {K : Nat} {J : Nat} {σ : xS} : pX5_becomeAs [.ref K, .ref J] σ = ((xob WX K 5) ∧ (xob WX J 5)) := propext ⟨fun h => by obtain ⟨K, J, e, h⟩ := h; cases e; exact h, fun h => ⟨K, J, rfl, h⟩⟩
theorem fX5_becomeAs_e {K : Nat} {J : Nat} {σ : xS} : fX5_becomeAs [.ref K, .ref J] σ = (none, xI (xI (xI (xI (xI (xI (xI σ K 0 (σ.1 J 0)) K 1 (σ.1 J 1)) K 2 (σ.1 J 2)) K 3 (σ.1 J 3)) K 4 (σ.1 J 4)) K 5 (σ.1 J 5)) K 6 (σ.1 J 6)) := rfl
def calX5_becomeAs : List (Nat × xCall) := []
set_option maxHeartbeats 4000000 in
set_option maxRecDepth 100000 in
theorem mX5_becomeAs : xMet WX yX5_becomeAs cX5_becomeAs 2 none 1 pX5_becomeAs fX5_becomeAs := by
  refine xMet_of (fld := xlk fldX5) (cal := xlk calX5_becomeAs) (ks := xlk []) (gs := xlk []) (ro := fun _ => none) 4 (by decide) WX_nd rfl fldX5_ok xKs_nil xGs_nil (Or.inr rfl) xcal_nil ?_ ?_
  · rintro av σ ⟨K, J, rfl, hpre⟩
    exact Nat.le_of_ble_eq_true rfl
  rintro av σ ⟨K, J, rfl, ⟨hp1, hp2⟩⟩ Rt hR
  refine xgo0 31 ?_
  simp (config := {maxSteps := 2000000}) only [xwp_0, xwp_1, xws_s, xdd_o, xld_0, xld_s, xs1_0, xs1_1, xs1_s, xs2_0, xs2_1, xs2_s, xlg_n, xlg_i, xlg_r, xlg_z, xlg_l, xf4_0, xf4_1, xf4_2, xf4_3, xgo_e, xcmp_eq, xcmp_ne, xcmp_lt, xcmp_ge, xcmp_gt, xcmp_le, xfg_0, xfg_1, xfg_2, xfg_3, xfg_4, xpop_0, xpop_s, xsw_n, xsw_c, xtb_n, xtb_c, xenp_n, xenp_i, xenp_r, xenp_z, xenp_l, xrep_0, xrep_s, Nat.reduceSub, true_and, and_true, cat_i, cat_r, Nat.reduceAdd, Nat.reduceLT, Nat.reduceLeDiff, Nat.reduceEqDiff, xnc, Int.reduceAdd, Int.reduceSub, Int.reduceNeg, Int.reduceLE, Int.reduceLT, Int.reduceToNat, ↓reduceIte, List.length_cons, List.length_nil, xlc0, xlc1, ite_10, i10, i01, i0_2, i0_3, i0_4, i0_6, i0_7, i0_8, i0_49, i0_10, or_true, true_or, or_false, false_or, not_false_eq_true, not_true_eq_false, xnt, xI_g, eq_self, xI_2, xJ_1, false_and, and_false, obT_t, obS_t, ob6_t, ob2_t, ob0_t, kT1_t, kT2_t, kT3_t, kT4_t, lT1, lT2, rT6, rT7, rT8, rT9, rT1i, rT2i, rS2, kSe_t, lSe, r0_0, r0_1, r0_2, r0_3, r0_4, r0_5, r0_6, r0_7, r0_8, r0_9, r1_i, r2_4, r2_5, r4_4, a1_t, a3_t, a5_t, a6_t, a7_t, a8_t, l1, l3, l5, l6, l7, l8, T1, T2, T3, T4, nI8, nI6, nI160, nI20, nI401, nI49, ob5_t, ob1_t, vp_tn, tn_def, lgc, dX5_becomeAs_0, st_aload_n, dX5_becomeAs_1, dX5_becomeAs_2, st_getfield, fl_X5_9, dX5_becomeAs_5, st_putfield, dX5_becomeAs_8, dX5_becomeAs_9, dX5_becomeAs_10, fl_X5_15, dX5_becomeAs_13, dX5_becomeAs_16, dX5_becomeAs_17, dX5_becomeAs_18, fl_X5_18, dX5_becomeAs_21, dX5_becomeAs_24, dX5_becomeAs_25, dX5_becomeAs_26, fl_X5_21, dX5_becomeAs_29, dX5_becomeAs_32, dX5_becomeAs_33, dX5_becomeAs_34, fl_X5_24, dX5_becomeAs_37, dX5_becomeAs_40, dX5_becomeAs_41, dX5_becomeAs_42, fl_X5_27, dX5_becomeAs_45, dX5_becomeAs_48, dX5_becomeAs_49, dX5_becomeAs_50, fl_X5_30, dX5_becomeAs_53, dX5_becomeAs_56, st_return_, hp1, hp2]
  try simp only [hR, fX5_becomeAs_e, Option.some.injEq, Value.int.injEq, Value.long.injEq, Value.ref.injEq, and_true, true_and]
  all_goals grind
theorem rX5_becomeAs : ∀ as σ, pX5_becomeAs as σ → ∃ K as', as = .ref K :: as' ∧ xob WX K 5 := by
  rintro as σ ⟨K, J, rfl, hpre⟩
  exact ⟨_, _, rfl, by first | exact hpre | exact hpre.1 | exact obT hpre | exact obT hpre.1 | exact obS hpre | exact obS hpre.1 | exact obM | exact ob6 | exact ob2 | exact ob0⟩
def pX5_takeGaitOf (as : List Value) (σ : xS) : Prop := ∃ (K : Nat) (J : Nat), as = [.ref K, .ref J] ∧ ((xob WX K 5) ∧ (xob WX J 5))
def fX5_takeGaitOf (as : List Value) (σ : xS) : Option Value × xS := match as with
  | [.ref K, .ref J] => (none, xI (xI (xI σ K 3 (σ.1 J 8)) K 4 (σ.1 J 9)) K 5 (if σ.1 K 0 = 4 then 1 - σ.1 J 11 else σ.1 J 11))
  | _ => (none, σ)
theorem pX5_takeGaitOf_e {K : Nat} {J : Nat} {σ : xS} : pX5_takeGaitOf [.ref K, .ref J] σ = ((xob WX K 5) ∧ (xob WX J 5)) := propext ⟨fun h => by obtain ⟨K, J, e, h⟩ := h; cases e; exact h, fun h => ⟨K, J, rfl, h⟩⟩
theorem fX5_takeGaitOf_e {K : Nat} {J : Nat} {σ : xS} : fX5_takeGaitOf [.ref K, .ref J] σ = (none, xI (xI (xI σ K 3 (σ.1 J 8)) K 4 (σ.1 J 9)) K 5 (if σ.1 K 0 = 4 then 1 - σ.1 J 11 else σ.1 J 11)) := rfl
def calX5_takeGaitOf : List (Nat × xCall) := []
set_option maxHeartbeats 4000000 in
set_option maxRecDepth 100000 in
theorem mX5_takeGaitOf : xMet WX yX5_takeGaitOf cX5_takeGaitOf 2 none 1 pX5_takeGaitOf fX5_takeGaitOf := by
  refine xMet_of (fld := xlk fldX5) (cal := xlk calX5_takeGaitOf) (ks := xlk []) (gs := xlk []) (ro := fun _ => none) 4 (by decide) WX_nd rfl fldX5_ok xKs_nil xGs_nil (Or.inr rfl) xcal_nil ?_ ?_
  · rintro av σ ⟨K, J, rfl, hpre⟩
    exact Nat.le_of_ble_eq_true rfl
  rintro av σ ⟨K, J, rfl, ⟨hp1, hp2⟩⟩ Rt hR
  refine xgo0 24 ?_
  simp (config := {maxSteps := 2000000}) only [xwp_0, xwp_1, xws_s, xdd_o, xld_0, xld_s, xs1_0, xs1_1, xs1_s, xs2_0, xs2_1, xs2_s, xlg_n, xlg_i, xlg_r, xlg_z, xlg_l, xf4_0, xf4_1, xf4_2, xf4_3, xgo_e, xcmp_eq, xcmp_ne, xcmp_lt, xcmp_ge, xcmp_gt, xcmp_le, xfg_0, xfg_1, xfg_2, xfg_3, xfg_4, xpop_0, xpop_s, xsw_n, xsw_c, xtb_n, xtb_c, xenp_n, xenp_i, xenp_r, xenp_z, xenp_l, xrep_0, xrep_s, Nat.reduceSub, true_and, and_true, cat_i, cat_r, Nat.reduceAdd, Nat.reduceLT, Nat.reduceLeDiff, Nat.reduceEqDiff, xnc, Int.reduceAdd, Int.reduceSub, Int.reduceNeg, Int.reduceLE, Int.reduceLT, Int.reduceToNat, ↓reduceIte, List.length_cons, List.length_nil, xlc0, xlc1, ite_10, i10, i01, i0_2, i0_3, i0_4, i0_6, i0_7, i0_8, i0_49, i0_10, or_true, true_or, or_false, false_or, not_false_eq_true, not_true_eq_false, xnt, xI_g, eq_self, xI_2, xJ_1, false_and, and_false, obT_t, obS_t, ob6_t, ob2_t, ob0_t, kT1_t, kT2_t, kT3_t, kT4_t, lT1, lT2, rT6, rT7, rT8, rT9, rT1i, rT2i, rS2, kSe_t, lSe, r0_0, r0_1, r0_2, r0_3, r0_4, r0_5, r0_6, r0_7, r0_8, r0_9, r1_i, r2_4, r2_5, r4_4, a1_t, a3_t, a5_t, a6_t, a7_t, a8_t, l1, l3, l5, l6, l7, l8, T1, T2, T3, T4, nI8, nI6, nI160, nI20, nI401, nI49, ob5_t, ob1_t, vp_tn, tn_def, lgc, dX5_takeGaitOf_0, st_aload_n, dX5_takeGaitOf_1, dX5_takeGaitOf_2, st_getfield, fl_X5_37, dX5_takeGaitOf_5, st_putfield, fl_X5_21, dX5_takeGaitOf_8, dX5_takeGaitOf_9, dX5_takeGaitOf_10, fl_X5_40, dX5_takeGaitOf_13, fl_X5_24, dX5_takeGaitOf_16, dX5_takeGaitOf_17, dX5_takeGaitOf_18, fl_X5_9, dX5_takeGaitOf_21, st_iconst, dX5_takeGaitOf_22, st_if_icmp, dX5_takeGaitOf_25, dX5_takeGaitOf_26, dX5_takeGaitOf_27, fl_X5_46, dX5_takeGaitOf_30, st_isub, dX5_takeGaitOf_31, st_goto, dX5_takeGaitOf_34, dX5_takeGaitOf_35, dX5_takeGaitOf_38, fl_X5_27, dX5_takeGaitOf_41, st_return_, ofI_4, ofI_1, hp1, hp2]
  try simp only [hR, fX5_takeGaitOf_e, Option.some.injEq, Value.int.injEq, Value.long.injEq, Value.ref.injEq, and_true, true_and]
  all_goals grind
theorem rX5_takeGaitOf : ∀ as σ, pX5_takeGaitOf as σ → ∃ K as', as = .ref K :: as' ∧ xob WX K 5 := by
  rintro as σ ⟨K, J, rfl, hpre⟩
  exact ⟨_, _, rfl, by first | exact hpre | exact hpre.1 | exact obT hpre | exact obT hpre.1 | exact obS hpre | exact obS hpre.1 | exact obM | exact ob6 | exact ob2 | exact ob0⟩
def iabs (x : Int32) : Int32 := if 0 ≤ x then x else 0 - x
def xbeside (p q : Int32) : Prop := iabs (p / 7 - q / 7) + iabs (xrem p 7 - xrem q 7) = 1

def pX5_isBeside (as : List Value) (σ : xS) : Prop := ∃ (K : Nat) (J : Nat), as = [.ref K, .ref J] ∧ ((xob WX K 5) ∧ (xob WX J 5))
def fX5_isBeside (as : List Value) (σ : xS) : Option Value × xS := match as with
  | [.ref K, .ref J] => (some (.int (if iabs (σ.1 K 1 / 7 - σ.1 J 1 / 7) + iabs (xrem (σ.1 K 1) 7 - xrem (σ.1 J 1) 7) = 1 then 1 else 0)), σ)
  | _ => (none, σ)
theorem pX5_isBeside_e {K : Nat} {J : Nat} {σ : xS} : pX5_isBeside [.ref K, .ref J] σ = ((xob WX K 5) ∧ (xob WX J 5)) := propext ⟨fun h => by obtain ⟨K, J, e, h⟩ := h; cases e; exact h, fun h => ⟨K, J, rfl, h⟩⟩
theorem fX5_isBeside_e {K : Nat} {J : Nat} {σ : xS} : fX5_isBeside [.ref K, .ref J] σ = (some (.int (if iabs (σ.1 K 1 / 7 - σ.1 J 1 / 7) + iabs (xrem (σ.1 K 1) 7 - xrem (σ.1 J 1) 7) = 1 then 1 else 0)), σ) := rfl
def calX5_isBeside : List (Nat × xCall) := [(49, (true, 1, pAbs, fAbs))]
theorem c_X5_isBeside_49 : xlk calX5_isBeside 49 = some (true, 1, pAbs, fAbs) := rfl
set_option maxHeartbeats 4000000 in
set_option maxRecDepth 100000 in
theorem mX5_isBeside : xMet WX yX5_isBeside cX5_isBeside 4 (some .boolean) 2 pX5_isBeside fX5_isBeside := by
  refine xMet_of (fld := xlk fldX5) (cal := xlk calX5_isBeside) (ks := xlk []) (gs := xlk []) (ro := fun _ => none) 1 (by decide) WX_nd rfl fldX5_ok xKs_nil xGs_nil (Or.inr rfl) (xcal_cons (xCk_abs (by decide) w_X5_49) xcal_nil) ?_ ?_
  · rintro av σ ⟨K, J, rfl, hpre⟩
    exact Nat.le_of_ble_eq_true rfl
  rintro av σ ⟨K, J, rfl, ⟨hp1, hp2⟩⟩ Rt hR
  refine xgo0 33 ?_
  simp (config := {maxSteps := 2000000}) only [xwp_0, xwp_1, xws_s, xdd_o, xld_0, xld_s, xs1_0, xs1_1, xs1_s, xs2_0, xs2_1, xs2_s, xlg_n, xlg_i, xlg_r, xlg_z, xlg_l, xf4_0, xf4_1, xf4_2, xf4_3, xgo_e, xcmp_eq, xcmp_ne, xcmp_lt, xcmp_ge, xcmp_gt, xcmp_le, xfg_0, xfg_1, xfg_2, xfg_3, xfg_4, xpop_0, xpop_s, xsw_n, xsw_c, xtb_n, xtb_c, xenp_n, xenp_i, xenp_r, xenp_z, xenp_l, xrep_0, xrep_s, Nat.reduceSub, true_and, and_true, cat_i, cat_r, Nat.reduceAdd, Nat.reduceLT, Nat.reduceLeDiff, Nat.reduceEqDiff, xnc, Int.reduceAdd, Int.reduceSub, Int.reduceNeg, Int.reduceLE, Int.reduceLT, Int.reduceToNat, ↓reduceIte, List.length_cons, List.length_nil, xlc0, xlc1, ite_10, i10, i01, i0_2, i0_3, i0_4, i0_6, i0_7, i0_8, i0_49, i0_10, or_true, true_or, or_false, false_or, not_false_eq_true, not_true_eq_false, xnt, xI_g, eq_self, xI_2, xJ_1, false_and, and_false, obT_t, obS_t, ob6_t, ob2_t, ob0_t, kT1_t, kT2_t, kT3_t, kT4_t, lT1, lT2, rT6, rT7, rT8, rT9, rT1i, rT2i, rS2, kSe_t, lSe, r0_0, r0_1, r0_2, r0_3, r0_4, r0_5, r0_6, r0_7, r0_8, r0_9, r1_i, r2_4, r2_5, r4_4, a1_t, a3_t, a5_t, a6_t, a7_t, a8_t, l1, l3, l5, l6, l7, l8, T1, T2, T3, T4, nI8, nI6, nI160, nI20, nI401, nI49, ob5_t, ob1_t, vp_tn, tn_def, lgc, dX5_isBeside_0, st_aload_n, dX5_isBeside_1, st_getfield, fl_X5_15, dX5_isBeside_4, st_bipush, dX5_isBeside_6, st_idiv, dX5_isBeside_7, dX5_isBeside_8, dX5_isBeside_11, dX5_isBeside_13, dX5_isBeside_14, st_isub, dX5_isBeside_15, st_invokestatic, dX5_isBeside_18, st_istore_n, dX5_isBeside_19, dX5_isBeside_20, dX5_isBeside_23, dX5_isBeside_25, st_irem, dX5_isBeside_26, dX5_isBeside_27, dX5_isBeside_30, dX5_isBeside_32, dX5_isBeside_33, dX5_isBeside_34, dX5_isBeside_37, dX5_isBeside_38, st_iload_n, dX5_isBeside_39, dX5_isBeside_40, st_iadd, dX5_isBeside_41, st_iconst, dX5_isBeside_42, st_if_icmp, dX5_isBeside_45, dX5_isBeside_46, st_goto, dX5_isBeside_49, dX5_isBeside_50, st_ireturn, c_X5_isBeside_49, pAbs_e, fAbs_e, Option.toList_some, Option.toList_none, List.cons_append, List.nil_append, ofI_7, ofI_1, ofI_0, hp1, hp2]
  simp only [hR, fX5_isBeside_e, iabs, Option.some.injEq, Value.int.injEq, and_true, true_and]
  all_goals grind
theorem rX5_isBeside : ∀ as σ, pX5_isBeside as σ → ∃ K as', as = .ref K :: as' ∧ xob WX K 5 := by
  rintro as σ ⟨K, J, rfl, hpre⟩
  exact ⟨_, _, rfl, by first | exact hpre | exact hpre.1 | exact obT hpre | exact obT hpre.1 | exact obS hpre | exact obS hpre.1 | exact obM | exact ob6 | exact ob2 | exact ob0⟩
def pX5_packed (as : List Value) (σ : xS) : Prop := ∃ (K : Nat), as = [.ref K] ∧ (xob WX K 5)
def fX5_packed (as : List Value) (σ : xS) : Option Value × xS := match as with
  | [.ref K] => (some (.int ((((σ.1 K 1 * 4 + σ.1 K 2) * 8 + σ.1 K 3) * 8 + σ.1 K 4) * 2 + σ.1 K 5)), σ)
  | _ => (none, σ)
theorem pX5_packed_e {K : Nat} {σ : xS} : pX5_packed [.ref K] σ = (xob WX K 5) := propext ⟨fun h => by obtain ⟨K, e, h⟩ := h; cases e; exact h, fun h => ⟨K, rfl, h⟩⟩
theorem fX5_packed_e {K : Nat} {σ : xS} : fX5_packed [.ref K] σ = (some (.int ((((σ.1 K 1 * 4 + σ.1 K 2) * 8 + σ.1 K 3) * 8 + σ.1 K 4) * 2 + σ.1 K 5)), σ) := rfl
def calX5_packed : List (Nat × xCall) := []
set_option maxHeartbeats 4000000 in
set_option maxRecDepth 100000 in
theorem mX5_packed : xMet WX yX5_packed cX5_packed 1 (some .int) 1 pX5_packed fX5_packed := by
  refine xMet_of (fld := xlk fldX5) (cal := xlk calX5_packed) (ks := xlk []) (gs := xlk []) (ro := fun _ => none) 0 (by decide) WX_nd rfl fldX5_ok xKs_nil xGs_nil (Or.inr rfl) xcal_nil ?_ ?_
  · rintro av σ ⟨K, rfl, hpre⟩
    exact Nat.le_of_ble_eq_true rfl
  rintro av σ ⟨K, rfl, hp1⟩ Rt hR
  refine xgo0 25 ?_
  simp (config := {maxSteps := 2000000}) only [xwp_0, xwp_1, xws_s, xdd_o, xld_0, xld_s, xs1_0, xs1_1, xs1_s, xs2_0, xs2_1, xs2_s, xlg_n, xlg_i, xlg_r, xlg_z, xlg_l, xf4_0, xf4_1, xf4_2, xf4_3, xgo_e, xcmp_eq, xcmp_ne, xcmp_lt, xcmp_ge, xcmp_gt, xcmp_le, xfg_0, xfg_1, xfg_2, xfg_3, xfg_4, xpop_0, xpop_s, xsw_n, xsw_c, xtb_n, xtb_c, xenp_n, xenp_i, xenp_r, xenp_z, xenp_l, xrep_0, xrep_s, Nat.reduceSub, true_and, and_true, cat_i, cat_r, Nat.reduceAdd, Nat.reduceLT, Nat.reduceLeDiff, Nat.reduceEqDiff, xnc, Int.reduceAdd, Int.reduceSub, Int.reduceNeg, Int.reduceLE, Int.reduceLT, Int.reduceToNat, ↓reduceIte, List.length_cons, List.length_nil, xlc0, xlc1, ite_10, i10, i01, i0_2, i0_3, i0_4, i0_6, i0_7, i0_8, i0_49, i0_10, or_true, true_or, or_false, false_or, not_false_eq_true, not_true_eq_false, xnt, xI_g, eq_self, xI_2, xJ_1, false_and, and_false, obT_t, obS_t, ob6_t, ob2_t, ob0_t, kT1_t, kT2_t, kT3_t, kT4_t, lT1, lT2, rT6, rT7, rT8, rT9, rT1i, rT2i, rS2, kSe_t, lSe, r0_0, r0_1, r0_2, r0_3, r0_4, r0_5, r0_6, r0_7, r0_8, r0_9, r1_i, r2_4, r2_5, r4_4, a1_t, a3_t, a5_t, a6_t, a7_t, a8_t, l1, l3, l5, l6, l7, l8, T1, T2, T3, T4, nI8, nI6, nI160, nI20, nI401, nI49, ob5_t, ob1_t, vp_tn, tn_def, lgc, dX5_packed_0, st_aload_n, dX5_packed_1, st_getfield, fl_X5_15, dX5_packed_4, st_iconst, dX5_packed_5, st_imul, dX5_packed_6, dX5_packed_7, fl_X5_18, dX5_packed_10, st_iadd, dX5_packed_11, st_bipush, dX5_packed_13, dX5_packed_14, dX5_packed_15, fl_X5_21, dX5_packed_18, dX5_packed_19, dX5_packed_21, dX5_packed_22, dX5_packed_23, fl_X5_24, dX5_packed_26, dX5_packed_27, dX5_packed_28, dX5_packed_29, dX5_packed_30, fl_X5_27, dX5_packed_33, dX5_packed_34, st_ireturn, ofI_4, ofI_8, ofI_2, hp1]
  try simp only [hR, fX5_packed_e, Option.some.injEq, Value.int.injEq, Value.long.injEq, Value.ref.injEq, and_true, true_and]
  all_goals grind
theorem rX5_packed : ∀ as σ, pX5_packed as σ → ∃ K as', as = .ref K :: as' ∧ xob WX K 5 := by
  rintro as σ ⟨K, rfl, hpre⟩
  exact ⟨_, _, rfl, by first | exact hpre | exact hpre.1 | exact obT hpre | exact obT hpre.1 | exact obS hpre | exact obS hpre.1 | exact obM | exact ob6 | exact ob2 | exact ob0⟩
def pX1_withStep (as : List Value) (σ : xS) : Prop := ∃ (s : Int32) (i : Int32) (t : Int32), as = [.int s, .int i, .int t] ∧ (True)
def fX1_withStep (as : List Value) (σ : xS) : Option Value × xS := match as with
  | [.int s, .int i, .int t] => (some (.int (s ||| xshl t (2 * i))), σ)
  | _ => (none, σ)
theorem pX1_withStep_e {s : Int32} {i : Int32} {t : Int32} {σ : xS} : pX1_withStep [.int s, .int i, .int t] σ = (True) := propext ⟨fun h => by obtain ⟨s, i, t, e, h⟩ := h; cases e; exact h, fun h => ⟨s, i, t, rfl, h⟩⟩
theorem fX1_withStep_e {s : Int32} {i : Int32} {t : Int32} {σ : xS} : fX1_withStep [.int s, .int i, .int t] σ = (some (.int (s ||| xshl t (2 * i))), σ) := rfl
def calX1_withStep : List (Nat × xCall) := []
set_option maxHeartbeats 4000000 in
set_option maxRecDepth 100000 in
theorem mX1_withStep : xMet WX yX1_withStep cX1_withStep 3 (some .int) 1 pX1_withStep fX1_withStep := by
  refine xMet_of (fld := xlk fldX1) (cal := xlk calX1_withStep) (ks := xlk []) (gs := xlk []) (ro := fun _ => none) 0 (by decide) WX_nd rfl fldX1_ok xKs_nil xGs_nil (Or.inr rfl) xcal_nil ?_ ?_
  · rintro av σ ⟨s, i, t, rfl, hpre⟩
    exact Nat.le_of_ble_eq_true rfl
  rintro av σ ⟨s, i, t, rfl, hp1⟩ Rt hR
  refine xgo0 10 ?_
  simp (config := {maxSteps := 2000000}) only [xwp_0, xwp_1, xws_s, xdd_o, xld_0, xld_s, xs1_0, xs1_1, xs1_s, xs2_0, xs2_1, xs2_s, xlg_n, xlg_i, xlg_r, xlg_z, xlg_l, xf4_0, xf4_1, xf4_2, xf4_3, xgo_e, xcmp_eq, xcmp_ne, xcmp_lt, xcmp_ge, xcmp_gt, xcmp_le, xfg_0, xfg_1, xfg_2, xfg_3, xfg_4, xpop_0, xpop_s, xsw_n, xsw_c, xtb_n, xtb_c, xenp_n, xenp_i, xenp_r, xenp_z, xenp_l, xrep_0, xrep_s, Nat.reduceSub, true_and, and_true, cat_i, cat_r, Nat.reduceAdd, Nat.reduceLT, Nat.reduceLeDiff, Nat.reduceEqDiff, xnc, Int.reduceAdd, Int.reduceSub, Int.reduceNeg, Int.reduceLE, Int.reduceLT, Int.reduceToNat, ↓reduceIte, List.length_cons, List.length_nil, xlc0, xlc1, ite_10, i10, i01, i0_2, i0_3, i0_4, i0_6, i0_7, i0_8, i0_49, i0_10, or_true, true_or, or_false, false_or, not_false_eq_true, not_true_eq_false, xnt, xI_g, eq_self, xI_2, xJ_1, false_and, and_false, obT_t, obS_t, ob6_t, ob2_t, ob0_t, kT1_t, kT2_t, kT3_t, kT4_t, lT1, lT2, rT6, rT7, rT8, rT9, rT1i, rT2i, rS2, kSe_t, lSe, r0_0, r0_1, r0_2, r0_3, r0_4, r0_5, r0_6, r0_7, r0_8, r0_9, r1_i, r2_4, r2_5, r4_4, a1_t, a3_t, a5_t, a6_t, a7_t, a8_t, l1, l3, l5, l6, l7, l8, T1, T2, T3, T4, nI8, nI6, nI160, nI20, nI401, nI49, ob5_t, ob1_t, vp_tn, tn_def, lgc, dX1_withStep_0, st_iload_n, dX1_withStep_1, dX1_withStep_2, st_iconst, dX1_withStep_3, dX1_withStep_4, st_imul, dX1_withStep_5, st_ishl, dX1_withStep_6, st_ior, dX1_withStep_7, st_ireturn, ofI_2, hp1]
  try simp only [hR, fX1_withStep_e, Option.some.injEq, Value.int.injEq, Value.long.injEq, Value.ref.injEq, and_true, true_and]
  all_goals grind
def pX1_stepAt (as : List Value) (σ : xS) : Prop := ∃ (K : Nat) (i : Int32), as = [.ref K, .int i] ∧ (xob WX K 1)
def fX1_stepAt (as : List Value) (σ : xS) : Option Value × xS := match as with
  | [.ref K, .int i] => (some (.int (xshr (σ.1 K 2) (2 * i) &&& 3)), σ)
  | _ => (none, σ)
theorem pX1_stepAt_e {K : Nat} {i : Int32} {σ : xS} : pX1_stepAt [.ref K, .int i] σ = (xob WX K 1) := propext ⟨fun h => by obtain ⟨K, i, e, h⟩ := h; cases e; exact h, fun h => ⟨K, i, rfl, h⟩⟩
theorem fX1_stepAt_e {K : Nat} {i : Int32} {σ : xS} : fX1_stepAt [.ref K, .int i] σ = (some (.int (xshr (σ.1 K 2) (2 * i) &&& 3)), σ) := rfl
def calX1_stepAt : List (Nat × xCall) := []
set_option maxHeartbeats 4000000 in
set_option maxRecDepth 100000 in
theorem mX1_stepAt : xMet WX yX1_stepAt cX1_stepAt 2 (some .int) 1 pX1_stepAt fX1_stepAt := by
  refine xMet_of (fld := xlk fldX1) (cal := xlk calX1_stepAt) (ks := xlk []) (gs := xlk []) (ro := fun _ => none) 0 (by decide) WX_nd rfl fldX1_ok xKs_nil xGs_nil (Or.inr rfl) xcal_nil ?_ ?_
  · rintro av σ ⟨K, i, rfl, hpre⟩
    exact Nat.le_of_ble_eq_true rfl
  rintro av σ ⟨K, i, rfl, hp1⟩ Rt hR
  refine xgo0 11 ?_
  simp (config := {maxSteps := 2000000}) only [xwp_0, xwp_1, xws_s, xdd_o, xld_0, xld_s, xs1_0, xs1_1, xs1_s, xs2_0, xs2_1, xs2_s, xlg_n, xlg_i, xlg_r, xlg_z, xlg_l, xf4_0, xf4_1, xf4_2, xf4_3, xgo_e, xcmp_eq, xcmp_ne, xcmp_lt, xcmp_ge, xcmp_gt, xcmp_le, xfg_0, xfg_1, xfg_2, xfg_3, xfg_4, xpop_0, xpop_s, xsw_n, xsw_c, xtb_n, xtb_c, xenp_n, xenp_i, xenp_r, xenp_z, xenp_l, xrep_0, xrep_s, Nat.reduceSub, true_and, and_true, cat_i, cat_r, Nat.reduceAdd, Nat.reduceLT, Nat.reduceLeDiff, Nat.reduceEqDiff, xnc, Int.reduceAdd, Int.reduceSub, Int.reduceNeg, Int.reduceLE, Int.reduceLT, Int.reduceToNat, ↓reduceIte, List.length_cons, List.length_nil, xlc0, xlc1, ite_10, i10, i01, i0_2, i0_3, i0_4, i0_6, i0_7, i0_8, i0_49, i0_10, or_true, true_or, or_false, false_or, not_false_eq_true, not_true_eq_false, xnt, xI_g, eq_self, xI_2, xJ_1, false_and, and_false, obT_t, obS_t, ob6_t, ob2_t, ob0_t, kT1_t, kT2_t, kT3_t, kT4_t, lT1, lT2, rT6, rT7, rT8, rT9, rT1i, rT2i, rS2, kSe_t, lSe, r0_0, r0_1, r0_2, r0_3, r0_4, r0_5, r0_6, r0_7, r0_8, r0_9, r1_i, r2_4, r2_5, r4_4, a1_t, a3_t, a5_t, a6_t, a7_t, a8_t, l1, l3, l5, l6, l7, l8, T1, T2, T3, T4, nI8, nI6, nI160, nI20, nI401, nI49, ob5_t, ob1_t, vp_tn, tn_def, lgc, dX1_stepAt_0, st_aload_n, dX1_stepAt_1, st_getfield, fl_X1_18, dX1_stepAt_4, st_iconst, dX1_stepAt_5, st_iload_n, dX1_stepAt_6, st_imul, dX1_stepAt_7, st_ishr, dX1_stepAt_8, dX1_stepAt_9, st_iand, dX1_stepAt_10, st_ireturn, ofI_2, ofI_3, hp1]
  try simp only [hR, fX1_stepAt_e, Option.some.injEq, Value.int.injEq, Value.long.injEq, Value.ref.injEq, and_true, true_and]
  all_goals grind
theorem rX1_stepAt : ∀ as σ, pX1_stepAt as σ → ∃ K as', as = .ref K :: as' ∧ xob WX K 1 := by
  rintro as σ ⟨K, i, rfl, hpre⟩
  exact ⟨_, _, rfl, by first | exact hpre | exact hpre.1 | exact obT hpre | exact obT hpre.1 | exact obS hpre | exact obS hpre.1 | exact obM | exact ob6 | exact ob2 | exact ob0⟩
def pX1_quartersOf (as : List Value) (σ : xS) : Prop := ∃ (K : Nat) (t : Int32), as = [.ref K, .int t] ∧ (xob WX K 1)
def fX1_quartersOf (as : List Value) (σ : xS) : Option Value × xS := match as with
  | [.ref K, .int t] => (some (.int (if t = 3 then 0 else if (if t = 0 then σ.1 K 1 else t - 1) = 0 then 3 else if t = 0 then σ.1 K 1 else t - 1)), σ)
  | _ => (none, σ)
theorem pX1_quartersOf_e {K : Nat} {t : Int32} {σ : xS} : pX1_quartersOf [.ref K, .int t] σ = (xob WX K 1) := propext ⟨fun h => by obtain ⟨K, t, e, h⟩ := h; cases e; exact h, fun h => ⟨K, t, rfl, h⟩⟩
theorem fX1_quartersOf_e {K : Nat} {t : Int32} {σ : xS} : fX1_quartersOf [.ref K, .int t] σ = (some (.int (if t = 3 then 0 else if (if t = 0 then σ.1 K 1 else t - 1) = 0 then 3 else if t = 0 then σ.1 K 1 else t - 1)), σ) := rfl
def calX1_quartersOf : List (Nat × xCall) := []
set_option maxHeartbeats 4000000 in
set_option maxRecDepth 100000 in
theorem mX1_quartersOf : xMet WX yX1_quartersOf cX1_quartersOf 3 (some .int) 1 pX1_quartersOf fX1_quartersOf := by
  refine xMet_of (fld := xlk fldX1) (cal := xlk calX1_quartersOf) (ks := xlk []) (gs := xlk []) (ro := fun _ => none) 0 (by decide) WX_nd rfl fldX1_ok xKs_nil xGs_nil (Or.inr rfl) xcal_nil ?_ ?_
  · rintro av σ ⟨K, t, rfl, hpre⟩
    exact Nat.le_of_ble_eq_true rfl
  rintro av σ ⟨K, t, rfl, hp1⟩ Rt hR
  refine xgo0 22 ?_
  simp (config := {maxSteps := 2000000}) only [xwp_0, xwp_1, xws_s, xdd_o, xld_0, xld_s, xs1_0, xs1_1, xs1_s, xs2_0, xs2_1, xs2_s, xlg_n, xlg_i, xlg_r, xlg_z, xlg_l, xf4_0, xf4_1, xf4_2, xf4_3, xgo_e, xcmp_eq, xcmp_ne, xcmp_lt, xcmp_ge, xcmp_gt, xcmp_le, xfg_0, xfg_1, xfg_2, xfg_3, xfg_4, xpop_0, xpop_s, xsw_n, xsw_c, xtb_n, xtb_c, xenp_n, xenp_i, xenp_r, xenp_z, xenp_l, xrep_0, xrep_s, Nat.reduceSub, true_and, and_true, cat_i, cat_r, Nat.reduceAdd, Nat.reduceLT, Nat.reduceLeDiff, Nat.reduceEqDiff, xnc, Int.reduceAdd, Int.reduceSub, Int.reduceNeg, Int.reduceLE, Int.reduceLT, Int.reduceToNat, ↓reduceIte, List.length_cons, List.length_nil, xlc0, xlc1, ite_10, i10, i01, i0_2, i0_3, i0_4, i0_6, i0_7, i0_8, i0_49, i0_10, or_true, true_or, or_false, false_or, not_false_eq_true, not_true_eq_false, xnt, xI_g, eq_self, xI_2, xJ_1, false_and, and_false, obT_t, obS_t, ob6_t, ob2_t, ob0_t, kT1_t, kT2_t, kT3_t, kT4_t, lT1, lT2, rT6, rT7, rT8, rT9, rT1i, rT2i, rS2, kSe_t, lSe, r0_0, r0_1, r0_2, r0_3, r0_4, r0_5, r0_6, r0_7, r0_8, r0_9, r1_i, r2_4, r2_5, r4_4, a1_t, a3_t, a5_t, a6_t, a7_t, a8_t, l1, l3, l5, l6, l7, l8, T1, T2, T3, T4, nI8, nI6, nI160, nI20, nI401, nI49, ob5_t, ob1_t, vp_tn, tn_def, lgc, dX1_quartersOf_0, st_iload_n, dX1_quartersOf_1, st_iconst, dX1_quartersOf_2, st_if_icmp, dX1_quartersOf_5, dX1_quartersOf_6, st_ireturn, dX1_quartersOf_7, dX1_quartersOf_8, st_ifCond, dX1_quartersOf_11, st_aload_n, dX1_quartersOf_12, st_getfield, fl_X1_15, dX1_quartersOf_15, st_goto, dX1_quartersOf_18, dX1_quartersOf_19, dX1_quartersOf_20, st_isub, dX1_quartersOf_21, st_istore_n, dX1_quartersOf_22, dX1_quartersOf_23, dX1_quartersOf_26, dX1_quartersOf_27, dX1_quartersOf_30, dX1_quartersOf_31, ofI_3, ofI_0, ofI_1, hp1]
  try simp only [hR, fX1_quartersOf_e, Option.some.injEq, Value.int.injEq, Value.long.injEq, Value.ref.injEq, and_true, true_and]
  all_goals grind
theorem rX1_quartersOf : ∀ as σ, pX1_quartersOf as σ → ∃ K as', as = .ref K :: as' ∧ xob WX K 1 := by
  rintro as σ ⟨K, t, rfl, hpre⟩
  exact ⟨_, _, rfl, by first | exact hpre | exact hpre.1 | exact obT hpre | exact obT hpre.1 | exact obS hpre | exact obS hpre.1 | exact obM | exact ob6 | exact ob2 | exact ob0⟩
def pX1_next (as : List Value) (σ : xS) : Prop := ∃ (K : Nat) (t : Int32), as = [.ref K, .int t] ∧ (xob WX K 1)
def fX1_next (as : List Value) (σ : xS) : Option Value × xS := match as with
  | [.ref K, .int t] => (some (.int (if t + 1 < σ.1 K 0 then t + 1 else 0)), σ)
  | _ => (none, σ)
theorem pX1_next_e {K : Nat} {t : Int32} {σ : xS} : pX1_next [.ref K, .int t] σ = (xob WX K 1) := propext ⟨fun h => by obtain ⟨K, t, e, h⟩ := h; cases e; exact h, fun h => ⟨K, t, rfl, h⟩⟩
theorem fX1_next_e {K : Nat} {t : Int32} {σ : xS} : fX1_next [.ref K, .int t] σ = (some (.int (if t + 1 < σ.1 K 0 then t + 1 else 0)), σ) := rfl
def calX1_next : List (Nat × xCall) := []
set_option maxHeartbeats 4000000 in
set_option maxRecDepth 100000 in
theorem mX1_next : xMet WX yX1_next cX1_next 2 (some .int) 1 pX1_next fX1_next := by
  refine xMet_of (fld := xlk fldX1) (cal := xlk calX1_next) (ks := xlk []) (gs := xlk []) (ro := fun _ => none) 0 (by decide) WX_nd rfl fldX1_ok xKs_nil xGs_nil (Or.inr rfl) xcal_nil ?_ ?_
  · rintro av σ ⟨K, t, rfl, hpre⟩
    exact Nat.le_of_ble_eq_true rfl
  rintro av σ ⟨K, t, rfl, hp1⟩ Rt hR
  refine xgo0 14 ?_
  simp (config := {maxSteps := 2000000}) only [xwp_0, xwp_1, xws_s, xdd_o, xld_0, xld_s, xs1_0, xs1_1, xs1_s, xs2_0, xs2_1, xs2_s, xlg_n, xlg_i, xlg_r, xlg_z, xlg_l, xf4_0, xf4_1, xf4_2, xf4_3, xgo_e, xcmp_eq, xcmp_ne, xcmp_lt, xcmp_ge, xcmp_gt, xcmp_le, xfg_0, xfg_1, xfg_2, xfg_3, xfg_4, xpop_0, xpop_s, xsw_n, xsw_c, xtb_n, xtb_c, xenp_n, xenp_i, xenp_r, xenp_z, xenp_l, xrep_0, xrep_s, Nat.reduceSub, true_and, and_true, cat_i, cat_r, Nat.reduceAdd, Nat.reduceLT, Nat.reduceLeDiff, Nat.reduceEqDiff, xnc, Int.reduceAdd, Int.reduceSub, Int.reduceNeg, Int.reduceLE, Int.reduceLT, Int.reduceToNat, ↓reduceIte, List.length_cons, List.length_nil, xlc0, xlc1, ite_10, i10, i01, i0_2, i0_3, i0_4, i0_6, i0_7, i0_8, i0_49, i0_10, or_true, true_or, or_false, false_or, not_false_eq_true, not_true_eq_false, xnt, xI_g, eq_self, xI_2, xJ_1, false_and, and_false, obT_t, obS_t, ob6_t, ob2_t, ob0_t, kT1_t, kT2_t, kT3_t, kT4_t, lT1, lT2, rT6, rT7, rT8, rT9, rT1i, rT2i, rS2, kSe_t, lSe, r0_0, r0_1, r0_2, r0_3, r0_4, r0_5, r0_6, r0_7, r0_8, r0_9, r1_i, r2_4, r2_5, r4_4, a1_t, a3_t, a5_t, a6_t, a7_t, a8_t, l1, l3, l5, l6, l7, l8, T1, T2, T3, T4, nI8, nI6, nI160, nI20, nI401, nI49, ob5_t, ob1_t, vp_tn, tn_def, lgc, dX1_next_0, st_iload_n, dX1_next_1, st_iconst, dX1_next_2, st_iadd, dX1_next_3, st_aload_n, dX1_next_4, st_getfield, fl_X1_9, dX1_next_7, st_if_icmp, dX1_next_10, dX1_next_11, dX1_next_12, dX1_next_13, st_goto, dX1_next_16, dX1_next_17, st_ireturn, ofI_1, ofI_0, hp1]
  try simp only [hR, fX1_next_e, Option.some.injEq, Value.int.injEq, Value.long.injEq, Value.ref.injEq, and_true, true_and]
  all_goals grind
theorem rX1_next : ∀ as σ, pX1_next as σ → ∃ K as', as = .ref K :: as' ∧ xob WX K 1 := by
  rintro as σ ⟨K, t, rfl, hpre⟩
  exact ⟨_, _, rfl, by first | exact hpre | exact hpre.1 | exact obT hpre | exact obT hpre.1 | exact obS hpre | exact obS hpre.1 | exact obM | exact ob6 | exact ob2 | exact ob0⟩
def pX1_becomeAs (as : List Value) (σ : xS) : Prop := ∃ (K : Nat) (J : Nat), as = [.ref K, .ref J] ∧ ((xob WX K 1) ∧ (xob WX J 1))
def fX1_becomeAs (as : List Value) (σ : xS) : Option Value × xS := match as with
  | [.ref K, .ref J] => (none, xI (xI (xI σ K 0 (σ.1 J 0)) K 1 (σ.1 J 1)) K 2 (σ.1 J 2))
  | _ => (none, σ)
theorem pX1_becomeAs_e {K : Nat} {J : Nat} {σ : xS} : pX1_becomeAs [.ref K, .ref J] σ = ((xob WX K 1) ∧ (xob WX J 1)) := propext ⟨fun h => by obtain ⟨K, J, e, h⟩ := h; cases e; exact h, fun h => ⟨K, J, rfl, h⟩⟩
theorem fX1_becomeAs_e {K : Nat} {J : Nat} {σ : xS} : fX1_becomeAs [.ref K, .ref J] σ = (none, xI (xI (xI σ K 0 (σ.1 J 0)) K 1 (σ.1 J 1)) K 2 (σ.1 J 2)) := rfl
def calX1_becomeAs : List (Nat × xCall) := []
set_option maxHeartbeats 4000000 in
set_option maxRecDepth 100000 in
theorem mX1_becomeAs : xMet WX yX1_becomeAs cX1_becomeAs 2 none 1 pX1_becomeAs fX1_becomeAs := by
  refine xMet_of (fld := xlk fldX1) (cal := xlk calX1_becomeAs) (ks := xlk []) (gs := xlk []) (ro := fun _ => none) 4 (by decide) WX_nd rfl fldX1_ok xKs_nil xGs_nil (Or.inr rfl) xcal_nil ?_ ?_
  · rintro av σ ⟨K, J, rfl, hpre⟩
    exact Nat.le_of_ble_eq_true rfl
  rintro av σ ⟨K, J, rfl, ⟨hp1, hp2⟩⟩ Rt hR
  refine xgo0 15 ?_
  simp (config := {maxSteps := 2000000}) only [xwp_0, xwp_1, xws_s, xdd_o, xld_0, xld_s, xs1_0, xs1_1, xs1_s, xs2_0, xs2_1, xs2_s, xlg_n, xlg_i, xlg_r, xlg_z, xlg_l, xf4_0, xf4_1, xf4_2, xf4_3, xgo_e, xcmp_eq, xcmp_ne, xcmp_lt, xcmp_ge, xcmp_gt, xcmp_le, xfg_0, xfg_1, xfg_2, xfg_3, xfg_4, xpop_0, xpop_s, xsw_n, xsw_c, xtb_n, xtb_c, xenp_n, xenp_i, xenp_r, xenp_z, xenp_l, xrep_0, xrep_s, Nat.reduceSub, true_and, and_true, cat_i, cat_r, Nat.reduceAdd, Nat.reduceLT, Nat.reduceLeDiff, Nat.reduceEqDiff, xnc, Int.reduceAdd, Int.reduceSub, Int.reduceNeg, Int.reduceLE, Int.reduceLT, Int.reduceToNat, ↓reduceIte, List.length_cons, List.length_nil, xlc0, xlc1, ite_10, i10, i01, i0_2, i0_3, i0_4, i0_6, i0_7, i0_8, i0_49, i0_10, or_true, true_or, or_false, false_or, not_false_eq_true, not_true_eq_false, xnt, xI_g, eq_self, xI_2, xJ_1, false_and, and_false, obT_t, obS_t, ob6_t, ob2_t, ob0_t, kT1_t, kT2_t, kT3_t, kT4_t, lT1, lT2, rT6, rT7, rT8, rT9, rT1i, rT2i, rS2, kSe_t, lSe, r0_0, r0_1, r0_2, r0_3, r0_4, r0_5, r0_6, r0_7, r0_8, r0_9, r1_i, r2_4, r2_5, r4_4, a1_t, a3_t, a5_t, a6_t, a7_t, a8_t, l1, l3, l5, l6, l7, l8, T1, T2, T3, T4, nI8, nI6, nI160, nI20, nI401, nI49, ob5_t, ob1_t, vp_tn, tn_def, lgc, dX1_becomeAs_0, st_aload_n, dX1_becomeAs_1, dX1_becomeAs_2, st_getfield, fl_X1_9, dX1_becomeAs_5, st_putfield, dX1_becomeAs_8, dX1_becomeAs_9, dX1_becomeAs_10, fl_X1_15, dX1_becomeAs_13, dX1_becomeAs_16, dX1_becomeAs_17, dX1_becomeAs_18, fl_X1_18, dX1_becomeAs_21, dX1_becomeAs_24, st_return_, hp1, hp2]
  try simp only [hR, fX1_becomeAs_e, Option.some.injEq, Value.int.injEq, Value.long.injEq, Value.ref.injEq, and_true, true_and]
  all_goals grind
theorem rX1_becomeAs : ∀ as σ, pX1_becomeAs as σ → ∃ K as', as = .ref K :: as' ∧ xob WX K 1 := by
  rintro as σ ⟨K, J, rfl, hpre⟩
  exact ⟨_, _, rfl, by first | exact hpre | exact hpre.1 | exact obT hpre | exact obT hpre.1 | exact obS hpre | exact obS hpre.1 | exact obM | exact ob6 | exact ob2 | exact ob0⟩
