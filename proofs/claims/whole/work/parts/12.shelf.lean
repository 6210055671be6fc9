theorem xJ_xJs {σ : xS} {K i : Nat} {g : Nat → Int64} {v : Int64} : xJ (xJs σ K g) K i v = xJs σ K (fun j => if j = i then v else g j) := by
  refine xS_e (fun a b => rfl) (fun a b => ?_)
  show (if a = K ∧ b = i then v else (if a = K then g else σ.2 a) b) = (if a = K then (fun j => if j = i then v else g j) else σ.2 a) b
  by_cases ha : a = K
  · by_cases hb : b = i
    · rw [if_pos ⟨ha, hb⟩, if_pos ha]
      simp [hb]
    · rw [if_neg (fun q => hb q.2), if_pos ha, if_pos ha]
      simp [hb]
  · rw [if_neg (fun q => ha q.1), if_neg ha, if_neg ha]
theorem xJs_e {σ : xS} {K : Nat} {g g' : Nat → Int64} (h : ∀ j, g j = g' j) : xJs σ K g = xJs σ K g' := by rw [funext h]
theorem xJs_i {σ : xS} {K : Nat} {g : Nat → Int64} (h : ∀ j, g j = σ.2 K j) : xJs σ K g = σ := by
  refine xS_e (fun a b => rfl) (fun a b => ?_)
  show (if a = K then g else σ.2 a) b = σ.2 a b
  by_cases ha : a = K
  · rw [if_pos ha, h, ha]
  · rw [if_neg ha]
theorem xJs_1 {σ : xS} {K : Nat} {g : Nat → Int64} : (xJs σ K g).1 = σ.1 := rfl
/-- cut to a sort (holding as it is kept) -/
def xcut64 (h : Int32) (v : Int64) : Int64 := if h - 100 = 0 then v.toInt32.toInt8.toInt32.toInt64 else if h - 100 = 1 then v.toInt32.toInt16.toInt32.toInt64 else if h - 100 = 2 then v.toInt32.toInt64 else v
/-- an element that is there -/
def xrch (σ : xS) (K : Nat) (i : Int32) : Prop := 0 ≤ i ∧ i < σ.1 K 1 ∧ i < 160
theorem i32_nlt {x y : Int32} : (¬ x < y) = (y ≤ x) := propext Int32.not_lt
theorem i32_nle {x y : Int32} : (¬ x ≤ y) = (y < x) := propext Int32.not_le
theorem xrch160 {σ : xS} {K : Nat} {i : Int32} (h : xrch σ K i) : tn i < 160 := by
  have h1 : i.toInt < 160 := by simpa using Int32.lt_iff_toInt_lt.mp h.2.2
  show i.toInt.toNat < 160
  omega
def pX3_hasRow (as : List Value) (σ : xS) : Prop := ∃ (K : Nat), as = [.ref K] ∧ (xSh K)
def fX3_hasRow (as : List Value) (σ : xS) : Option Value × xS := match as with
  | [.ref K] => (some (.int (if 100 ≤ σ.1 K 0 then 1 else 0)), σ)
  | _ => (none, σ)
theorem pX3_hasRow_e {K : Nat} {σ : xS} : pX3_hasRow [.ref K] σ = (xSh K) := propext ⟨fun h => by obtain ⟨K, e, h⟩ := h; cases e; exact h, fun h => ⟨K, rfl, h⟩⟩
theorem fX3_hasRow_e {K : Nat} {σ : xS} : fX3_hasRow [.ref K] σ = (some (.int (if 100 ≤ σ.1 K 0 then 1 else 0)), σ) := rfl
def calX3_hasRow : List (Nat × xCall) := []
set_option maxHeartbeats 4000000 in
set_option maxRecDepth 100000 in
theorem mX3_hasRow : xMet WX yX3_hasRow cX3_hasRow 1 (some .boolean) 1 pX3_hasRow fX3_hasRow := by
  refine xMet_of (fld := xlk fldX3) (cal := xlk calX3_hasRow) (ks := xlk []) (gs := xlk []) (ro := fun _ => none) 1 (by decide) WX_nd rfl fldX3_ok xKs_nil xGs_nil (Or.inr rfl) xcal_nil ?_ ?_
  · rintro av σ ⟨K, rfl, hpre⟩
    exact Nat.le_of_ble_eq_true rfl
  rintro av σ ⟨K, rfl, hp1⟩ Rt hR
  refine xgo0 10 ?_
  simp (config := {maxSteps := 2000000}) only [xwp_0, xwp_1, xws_s, xdd_o, xld_0, xld_s, xs1_0, xs1_1, xs1_s, xs2_0, xs2_1, xs2_s, xlg_n, xlg_i, xlg_r, xlg_z, xlg_l, xf4_0, xf4_1, xf4_2, xf4_3, xgo_e, xcmp_eq, xcmp_ne, xcmp_lt, xcmp_ge, xcmp_gt, xcmp_le, xfg_0, xfg_1, xfg_2, xfg_3, xfg_4, xpop_0, xpop_s, xsw_n, xsw_c, xtb_n, xtb_c, xenp_n, xenp_i, xenp_r, xenp_z, xenp_l, xrep_0, xrep_s, Nat.reduceSub, true_and, and_true, cat_i, cat_r, Nat.reduceAdd, Nat.reduceLT, Nat.reduceLeDiff, Nat.reduceEqDiff, xnc, Int.reduceAdd, Int.reduceSub, Int.reduceNeg, Int.reduceLE, Int.reduceLT, Int.reduceToNat, ↓reduceIte, List.length_cons, List.length_nil, xlc0, xlc1, ite_10, i10, i01, i0_2, i0_3, i0_4, i0_6, i0_7, i0_8, i0_49, i0_10, or_true, true_or, or_false, false_or, not_false_eq_true, not_true_eq_false, xnt, xI_g, eq_self, xI_2, xJ_1, false_and, and_false, obT_t, obS_t, ob6_t, ob2_t, ob0_t, kT1_t, kT2_t, kT3_t, kT4_t, lT1, lT2, rT6, rT7, rT8, rT9, rT1i, rT2i, rS2, kSe_t, lSe, r0_0, r0_1, r0_2, r0_3, r0_4, r0_5, r0_6, r0_7, r0_8, r0_9, r1_i, r2_4, r2_5, r4_4, a1_t, a3_t, a5_t, a6_t, a7_t, a8_t, l1, l3, l5, l6, l7, l8, T1, T2, T3, T4, nI8, nI6, nI160, nI20, nI401, nI49, ob5_t, ob1_t, vp_tn, tn_def, lgc, dX3_hasRow_0, st_aload_n, dX3_hasRow_1, st_getfield, fl_X3_9, dX3_hasRow_4, st_bipush, dX3_hasRow_6, st_if_icmp, dX3_hasRow_9, st_iconst, dX3_hasRow_10, st_goto, dX3_hasRow_13, dX3_hasRow_14, st_ireturn, ofI_100, ofI_1, ofI_0, hp1]
  try simp only [hR, fX3_hasRow_e, Option.some.injEq, Value.int.injEq, Value.long.injEq, Value.ref.injEq, and_true, true_and]
  all_goals grind
theorem rX3_hasRow : ∀ as σ, pX3_hasRow as σ → ∃ K as', as = .ref K :: as' ∧ xob WX K 3 := by
  rintro as σ ⟨K, rfl, hpre⟩
  exact ⟨_, _, rfl, by first | exact hpre | exact hpre.1 | exact obT hpre | exact obT hpre.1 | exact obS hpre | exact obS hpre.1 | exact obM | exact ob6 | exact ob2 | exact ob0⟩
def pX3_hasWalker (as : List Value) (σ : xS) : Prop := ∃ (K : Nat), as = [.ref K] ∧ (xSh K)
def fX3_hasWalker (as : List Value) (σ : xS) : Option Value × xS := match as with
  | [.ref K] => (some (.int (if 0 ≤ σ.1 K 0 ∧ σ.1 K 0 < 100 then 1 else 0)), σ)
  | _ => (none, σ)
theorem pX3_hasWalker_e {K : Nat} {σ : xS} : pX3_hasWalker [.ref K] σ = (xSh K) := propext ⟨fun h => by obtain ⟨K, e, h⟩ := h; cases e; exact h, fun h => ⟨K, rfl, h⟩⟩
theorem fX3_hasWalker_e {K : Nat} {σ : xS} : fX3_hasWalker [.ref K] σ = (some (.int (if 0 ≤ σ.1 K 0 ∧ σ.1 K 0 < 100 then 1 else 0)), σ) := rfl
def calX3_hasWalker : List (Nat × xCall) := []
set_option maxHeartbeats 4000000 in
set_option maxRecDepth 100000 in
theorem mX3_hasWalker : xMet WX yX3_hasWalker cX3_hasWalker 1 (some .boolean) 1 pX3_hasWalker fX3_hasWalker := by
  refine xMet_of (fld := xlk fldX3) (cal := xlk calX3_hasWalker) (ks := xlk []) (gs := xlk []) (ro := fun _ => none) 1 (by decide) WX_nd rfl fldX3_ok xKs_nil xGs_nil (Or.inr rfl) xcal_nil ?_ ?_
  · rintro av σ ⟨K, rfl, hpre⟩
    exact Nat.le_of_ble_eq_true rfl
  rintro av σ ⟨K, rfl, hp1⟩ Rt hR
  refine xgo0 13 ?_
  simp (config := {maxSteps := 2000000}) only [xwp_0, xwp_1, xws_s, xdd_o, xld_0, xld_s, xs1_0, xs1_1, xs1_s, xs2_0, xs2_1, xs2_s, xlg_n, xlg_i, xlg_r, xlg_z, xlg_l, xf4_0, xf4_1, xf4_2, xf4_3, xgo_e, xcmp_eq, xcmp_ne, xcmp_lt, xcmp_ge, xcmp_gt, xcmp_le, xfg_0, xfg_1, xfg_2, xfg_3, xfg_4, xpop_0, xpop_s, xsw_n, xsw_c, xtb_n, xtb_c, xenp_n, xenp_i, xenp_r, xenp_z, xenp_l, xrep_0, xrep_s, Nat.reduceSub, true_and, and_true, cat_i, cat_r, Nat.reduceAdd, Nat.reduceLT, Nat.reduceLeDiff, Nat.reduceEqDiff, xnc, Int.reduceAdd, Int.reduceSub, Int.reduceNeg, Int.reduceLE, Int.reduceLT, Int.reduceToNat, ↓reduceIte, List.length_cons, List.length_nil, xlc0, xlc1, ite_10, i10, i01, i0_2, i0_3, i0_4, i0_6, i0_7, i0_8, i0_49, i0_10, or_true, true_or, or_false, false_or, not_false_eq_true, not_true_eq_false, xnt, xI_g, eq_self, xI_2, xJ_1, false_and, and_false, obT_t, obS_t, ob6_t, ob2_t, ob0_t, kT1_t, kT2_t, kT3_t, kT4_t, lT1, lT2, rT6, rT7, rT8, rT9, rT1i, rT2i, rS2, kSe_t, lSe, r0_0, r0_1, r0_2, r0_3, r0_4, r0_5, r0_6, r0_7, r0_8, r0_9, r1_i, r2_4, r2_5, r4_4, a1_t, a3_t, a5_t, a6_t, a7_t, a8_t, l1, l3, l5, l6, l7, l8, T1, T2, T3, T4, nI8, nI6, nI160, nI20, nI401, nI49, ob5_t, ob1_t, vp_tn, tn_def, lgc, dX3_hasWalker_0, st_aload_n, dX3_hasWalker_1, st_getfield, fl_X3_9, dX3_hasWalker_4, st_ifCond, dX3_hasWalker_7, dX3_hasWalker_8, dX3_hasWalker_11, st_bipush, dX3_hasWalker_13, st_if_icmp, dX3_hasWalker_16, st_iconst, dX3_hasWalker_17, st_goto, dX3_hasWalker_20, dX3_hasWalker_21, st_ireturn, ofI_100, ofI_1, ofI_0, hp1]
  try simp only [hR, fX3_hasWalker_e, Option.some.injEq, Value.int.injEq, Value.long.injEq, Value.ref.injEq, and_true, true_and]
  all_goals grind
theorem rX3_hasWalker : ∀ as σ, pX3_hasWalker as σ → ∃ K as', as = .ref K :: as' ∧ xob WX K 3 := by
  rintro as σ ⟨K, rfl, hpre⟩
  exact ⟨_, _, rfl, by first | exact hpre | exact hpre.1 | exact obT hpre | exact obT hpre.1 | exact obS hpre | exact obS hpre.1 | exact obM | exact ob6 | exact ob2 | exact ob0⟩
def pX3_hold (as : List Value) (σ : xS) : Prop := ∃ (K : Nat) (x : Int32), as = [.ref K, .int x] ∧ (xSh K)
def fX3_hold (as : List Value) (σ : xS) : Option Value × xS := match as with
  | [.ref K, .int x] => (none, xI (xI σ K 0 x) K 1 0)
  | _ => (none, σ)
theorem pX3_hold_e {K : Nat} {x : Int32} {σ : xS} : pX3_hold [.ref K, .int x] σ = (xSh K) := propext ⟨fun h => by obtain ⟨K, x, e, h⟩ := h; cases e; exact h, fun h => ⟨K, x, rfl, h⟩⟩
theorem fX3_hold_e {K : Nat} {x : Int32} {σ : xS} : fX3_hold [.ref K, .int x] σ = (none, xI (xI σ K 0 x) K 1 0) := rfl
def calX3_hold : List (Nat × xCall) := []
set_option maxHeartbeats 4000000 in
set_option maxRecDepth 100000 in
theorem mX3_hold : xMet WX yX3_hold cX3_hold 2 none 1 pX3_hold fX3_hold := by
  refine xMet_of (fld := xlk fldX3) (cal := xlk calX3_hold) (ks := xlk []) (gs := xlk []) (ro := fun _ => none) 4 (by decide) WX_nd rfl fldX3_ok xKs_nil xGs_nil (Or.inr rfl) xcal_nil ?_ ?_
  · rintro av σ ⟨K, x, rfl, hpre⟩
    exact Nat.le_of_ble_eq_true rfl
  rintro av σ ⟨K, x, rfl, hp1⟩ Rt hR
  refine xgo0 9 ?_
  simp (config := {maxSteps := 2000000}) only [xwp_0, xwp_1, xws_s, xdd_o, xld_0, xld_s, xs1_0, xs1_1, xs1_s, xs2_0, xs2_1, xs2_s, xlg_n, xlg_i, xlg_r, xlg_z, xlg_l, xf4_0, xf4_1, xf4_2, xf4_3, xgo_e, xcmp_eq, xcmp_ne, xcmp_lt, xcmp_ge, xcmp_gt, xcmp_le, xfg_0, xfg_1, xfg_2, xfg_3, xfg_4, xpop_0, xpop_s, xsw_n, xsw_c, xtb_n, xtb_c, xenp_n, xenp_i, xenp_r, xenp_z, xenp_l, xrep_0, xrep_s, Nat.reduceSub, true_and, and_true, cat_i, cat_r, Nat.reduceAdd, Nat.reduceLT, Nat.reduceLeDiff, Nat.reduceEqDiff, xnc, Int.reduceAdd, Int.reduceSub, Int.reduceNeg, Int.reduceLE, Int.reduceLT, Int.reduceToNat, ↓reduceIte, List.length_cons, List.length_nil, xlc0, xlc1, ite_10, i10, i01, i0_2, i0_3, i0_4, i0_6, i0_7, i0_8, i0_49, i0_10, or_true, true_or, or_false, false_or, not_false_eq_true, not_true_eq_false, xnt, xI_g, eq_self, xI_2, xJ_1, false_and, and_false, obT_t, obS_t, ob6_t, ob2_t, ob0_t, kT1_t, kT2_t, kT3_t, kT4_t, lT1, lT2, rT6, rT7, rT8, rT9, rT1i, rT2i, rS2, kSe_t, lSe, r0_0, r0_1, r0_2, r0_3, r0_4, r0_5, r0_6, r0_7, r0_8, r0_9, r1_i, r2_4, r2_5, r4_4, a1_t, a3_t, a5_t, a6_t, a7_t, a8_t, l1, l3, l5, l6, l7, l8, T1, T2, T3, T4, nI8, nI6, nI160, nI20, nI401, nI49, ob5_t, ob1_t, vp_tn, tn_def, lgc, dX3_hold_0, st_aload_n, dX3_hold_1, st_iload_n, dX3_hold_2, st_putfield, fl_X3_9, dX3_hold_5, dX3_hold_6, st_iconst, dX3_hold_7, fl_X3_15, dX3_hold_10, st_return_, ofI_0, hp1]
  try simp only [hR, fX3_hold_e, Option.some.injEq, Value.int.injEq, Value.long.injEq, Value.ref.injEq, and_true, true_and]
  all_goals grind
theorem rX3_hold : ∀ as σ, pX3_hold as σ → ∃ K as', as = .ref K :: as' ∧ xob WX K 3 := by
  rintro as σ ⟨K, x, rfl, hpre⟩
  exact ⟨_, _, rfl, by first | exact hpre | exact hpre.1 | exact obT hpre | exact obT hpre.1 | exact obS hpre | exact obS hpre.1 | exact obM | exact ob6 | exact ob2 | exact ob0⟩
def pX3_reaches (as : List Value) (σ : xS) : Prop := ∃ (K : Nat) (i : Int32), as = [.ref K, .int i] ∧ (xSh K)
def fX3_reaches (as : List Value) (σ : xS) : Option Value × xS := match as with
  | [.ref K, .int i] => (some (.int (if (0 ≤ i ∧ i < σ.1 K 1 ∧ i < 160) then 1 else 0)), σ)
  | _ => (none, σ)
theorem pX3_reaches_e {K : Nat} {i : Int32} {σ : xS} : pX3_reaches [.ref K, .int i] σ = (xSh K) := propext ⟨fun h => by obtain ⟨K, i, e, h⟩ := h; cases e; exact h, fun h => ⟨K, i, rfl, h⟩⟩
theorem fX3_reaches_e {K : Nat} {i : Int32} {σ : xS} : fX3_reaches [.ref K, .int i] σ = (some (.int (if (0 ≤ i ∧ i < σ.1 K 1 ∧ i < 160) then 1 else 0)), σ) := rfl
def calX3_reaches : List (Nat × xCall) := []
set_option maxHeartbeats 4000000 in
set_option maxRecDepth 100000 in
theorem mX3_reaches : xMet WX yX3_reaches cX3_reaches 2 (some .boolean) 1 pX3_reaches fX3_reaches := by
  refine xMet_of (fld := xlk fldX3) (cal := xlk calX3_reaches) (ks := xlk []) (gs := xlk []) (ro := fun _ => none) 1 (by decide) WX_nd rfl fldX3_ok xKs_nil xGs_nil (Or.inr rfl) xcal_nil ?_ ?_
  · rintro av σ ⟨K, i, rfl, hpre⟩
    exact Nat.le_of_ble_eq_true rfl
  rintro av σ ⟨K, i, rfl, hp1⟩ Rt hR
  refine xgo0 17 ?_
  simp (config := {maxSteps := 2000000}) only [xwp_0, xwp_1, xws_s, xdd_o, xld_0, xld_s, xs1_0, xs1_1, xs1_s, xs2_0, xs2_1, xs2_s, xlg_n, xlg_i, xlg_r, xlg_z, xlg_l, xf4_0, xf4_1, xf4_2, xf4_3, xgo_e, xcmp_eq, xcmp_ne, xcmp_lt, xcmp_ge, xcmp_gt, xcmp_le, xfg_0, xfg_1, xfg_2, xfg_3, xfg_4, xpop_0, xpop_s, xsw_n, xsw_c, xtb_n, xtb_c, xenp_n, xenp_i, xenp_r, xenp_z, xenp_l, xrep_0, xrep_s, Nat.reduceSub, true_and, and_true, cat_i, cat_r, Nat.reduceAdd, Nat.reduceLT, Nat.reduceLeDiff, Nat.reduceEqDiff, xnc, Int.reduceAdd, Int.reduceSub, Int.reduceNeg, Int.reduceLE, Int.reduceLT, Int.reduceToNat, ↓reduceIte, List.length_cons, List.length_nil, xlc0, xlc1, ite_10, i10, i01, i0_2, i0_3, i0_4, i0_6, i0_7, i0_8, i0_49, i0_10, or_true, true_or, or_false, false_or, not_false_eq_true, not_true_eq_false, xnt, xI_g, eq_self, xI_2, xJ_1, false_and, and_false, obT_t, obS_t, ob6_t, ob2_t, ob0_t, kT1_t, kT2_t, kT3_t, kT4_t, lT1, lT2, rT6, rT7, rT8, rT9, rT1i, rT2i, rS2, kSe_t, lSe, r0_0, r0_1, r0_2, r0_3, r0_4, r0_5, r0_6, r0_7, r0_8, r0_9, r1_i, r2_4, r2_5, r4_4, a1_t, a3_t, a5_t, a6_t, a7_t, a8_t, l1, l3, l5, l6, l7, l8, T1, T2, T3, T4, nI8, nI6, nI160, nI20, nI401, nI49, ob5_t, ob1_t, vp_tn, tn_def, lgc, dX3_reaches_0, st_iload_n, dX3_reaches_1, st_ifCond, dX3_reaches_4, dX3_reaches_5, st_aload_n, dX3_reaches_6, st_getfield, fl_X3_15, dX3_reaches_9, st_if_icmp, dX3_reaches_12, dX3_reaches_13, dX3_reaches_14, fl_X3_18, dX3_reaches_17, st_arraylength, dX3_reaches_18, dX3_reaches_21, st_iconst, dX3_reaches_22, st_goto, dX3_reaches_25, dX3_reaches_26, st_ireturn, ofI_1, ofI_0, hp1]
  try simp only [hR, fX3_reaches_e, Option.some.injEq, Value.int.injEq, Value.long.injEq, Value.ref.injEq, and_true, true_and]
  all_goals grind
theorem rX3_reaches : ∀ as σ, pX3_reaches as σ → ∃ K as', as = .ref K :: as' ∧ xob WX K 3 := by
  rintro as σ ⟨K, i, rfl, hpre⟩
  exact ⟨_, _, rfl, by first | exact hpre | exact hpre.1 | exact obT hpre | exact obT hpre.1 | exact obS hpre | exact obS hpre.1 | exact obM | exact ob6 | exact ob2 | exact ob0⟩
def pX3_elementAt (as : List Value) (σ : xS) : Prop := ∃ (K : Nat) (i : Int32), as = [.ref K, .int i] ∧ (xSh K)
def fX3_elementAt (as : List Value) (σ : xS) : Option Value × xS := match as with
  | [.ref K, .int i] => (some (.long (if (0 ≤ i ∧ i < σ.1 K 1 ∧ i < 160) then σ.2 (K + 10) (tn i) else 0)), σ)
  | _ => (none, σ)
theorem pX3_elementAt_e {K : Nat} {i : Int32} {σ : xS} : pX3_elementAt [.ref K, .int i] σ = (xSh K) := propext ⟨fun h => by obtain ⟨K, i, e, h⟩ := h; cases e; exact h, fun h => ⟨K, i, rfl, h⟩⟩
theorem fX3_elementAt_e {K : Nat} {i : Int32} {σ : xS} : fX3_elementAt [.ref K, .int i] σ = (some (.long (if (0 ≤ i ∧ i < σ.1 K 1 ∧ i < 160) then σ.2 (K + 10) (tn i) else 0)), σ) := rfl
def calX3_elementAt : List (Nat × xCall) := [(22, (false, 2, pX3_reaches, fX3_reaches))]
theorem c_X3_elementAt_22 : xlk calX3_elementAt 22 = some (false, 2, pX3_reaches, fX3_reaches) := rfl
set_option maxHeartbeats 4000000 in
set_option maxRecDepth 100000 in
theorem mX3_elementAt : xMet WX yX3_elementAt cX3_elementAt 2 (some .long) 2 pX3_elementAt fX3_elementAt := by
  refine xMet_of (fld := xlk fldX3) (cal := xlk calX3_elementAt) (ks := xlk []) (gs := xlk []) (ro := fun _ => none) 2 (by decide) WX_nd rfl fldX3_ok xKs_nil xGs_nil (Or.inr rfl) (xcal_cons (xCk_V mX3_reaches 3 (by decide) (by decide) (by decide) rfl (fun as σ h _ => rX3_reaches as σ h) w_X3_22 ⟨by decide, by decide, by decide +kernel⟩) xcal_nil) ?_ ?_
  · rintro av σ ⟨K, i, rfl, hpre⟩
    exact Nat.le_of_ble_eq_true rfl
  rintro av σ ⟨K, i, rfl, hp1⟩ Rt hR
  refine xgo0 13 ?_
  simp (config := {maxSteps := 2000000}) only [xwp_0, xwp_1, xws_s, xdd_o, xld_0, xld_s, xs1_0, xs1_1, xs1_s, xs2_0, xs2_1, xs2_s, xlg_n, xlg_i, xlg_r, xlg_z, xlg_l, xf4_0, xf4_1, xf4_2, xf4_3, xgo_e, xcmp_eq, xcmp_ne, xcmp_lt, xcmp_ge, xcmp_gt, xcmp_le, xfg_0, xfg_1, xfg_2, xfg_3, xfg_4, xpop_0, xpop_s, xsw_n, xsw_c, xtb_n, xtb_c, xenp_n, xenp_i, xenp_r, xenp_z, xenp_l, xrep_0, xrep_s, Nat.reduceSub, true_and, and_true, cat_i, cat_r, Nat.reduceAdd, Nat.reduceLT, Nat.reduceLeDiff, Nat.reduceEqDiff, xnc, Int.reduceAdd, Int.reduceSub, Int.reduceNeg, Int.reduceLE, Int.reduceLT, Int.reduceToNat, ↓reduceIte, List.length_cons, List.length_nil, xlc0, xlc1, ite_10, i10, i01, i0_2, i0_3, i0_4, i0_6, i0_7, i0_8, i0_49, i0_10, or_true, true_or, or_false, false_or, not_false_eq_true, not_true_eq_false, xnt, xI_g, eq_self, xI_2, xJ_1, false_and, and_false, obT_t, obS_t, ob6_t, ob2_t, ob0_t, kT1_t, kT2_t, kT3_t, kT4_t, lT1, lT2, rT6, rT7, rT8, rT9, rT1i, rT2i, rS2, kSe_t, lSe, r0_0, r0_1, r0_2, r0_3, r0_4, r0_5, r0_6, r0_7, r0_8, r0_9, r1_i, r2_4, r2_5, r4_4, a1_t, a3_t, a5_t, a6_t, a7_t, a8_t, l1, l3, l5, l6, l7, l8, T1, T2, T3, T4, nI8, nI6, nI160, nI20, nI401, nI49, ob5_t, ob1_t, vp_tn, tn_def, lgc, dX3_elementAt_0, st_aload_n, dX3_elementAt_1, st_iload_n, dX3_elementAt_2, st_invokevirtual, dX3_elementAt_5, st_ifCond, dX3_elementAt_8, dX3_elementAt_9, st_getfield, fl_X3_18, dX3_elementAt_12, dX3_elementAt_13, st_laload, dX3_elementAt_14, st_goto, dX3_elementAt_17, st_lconst, dX3_elementAt_18, st_lreturn, c_X3_elementAt_22, pX3_reaches_e, fX3_reaches_e, Option.toList_some, Option.toList_none, List.cons_append, List.nil_append, hp1]
  by_cases h : 0 ≤ i ∧ i < σ.1 K 1 ∧ i < 160
  · have h2 := xrch160 h
    simp only [h, hR, fX3_elementAt_e, if_true, if_false, ite_10, i10, true_and, and_true, h2, not_true_eq_false, not_false_eq_true, false_implies, true_implies]
  · simp only [h, hR, fX3_elementAt_e, if_true, if_false, i10, eq_self, true_and, and_true, not_true_eq_false, not_false_eq_true, false_implies, true_implies]
theorem rX3_elementAt : ∀ as σ, pX3_elementAt as σ → ∃ K as', as = .ref K :: as' ∧ xob WX K 3 := by
  rintro as σ ⟨K, i, rfl, hpre⟩
  exact ⟨_, _, rfl, by first | exact hpre | exact hpre.1 | exact obT hpre | exact obT hpre.1 | exact obS hpre | exact obS hpre.1 | exact obM | exact ob6 | exact ob2 | exact ob0⟩
def pX3_numberAt (as : List Value) (σ : xS) : Prop := ∃ (K : Nat) (i : Int32), as = [.ref K, .int i] ∧ (xSh K)
def fX3_numberAt (as : List Value) (σ : xS) : Option Value × xS := match as with
  | [.ref K, .int i] => (some (.int (if (0 ≤ i ∧ i < σ.1 K 1 ∧ i < 160) then σ.2 (K + 10) (tn i) else 0).toInt32), σ)
  | _ => (none, σ)
theorem pX3_numberAt_e {K : Nat} {i : Int32} {σ : xS} : pX3_numberAt [.ref K, .int i] σ = (xSh K) := propext ⟨fun h => by obtain ⟨K, i, e, h⟩ := h; cases e; exact h, fun h => ⟨K, i, rfl, h⟩⟩
theorem fX3_numberAt_e {K : Nat} {i : Int32} {σ : xS} : fX3_numberAt [.ref K, .int i] σ = (some (.int (if (0 ≤ i ∧ i < σ.1 K 1 ∧ i < 160) then σ.2 (K + 10) (tn i) else 0).toInt32), σ) := rfl
def calX3_numberAt : List (Nat × xCall) := [(26, (false, 2, pX3_elementAt, fX3_elementAt))]
theorem c_X3_numberAt_26 : xlk calX3_numberAt 26 = some (false, 2, pX3_elementAt, fX3_elementAt) := rfl
set_option maxHeartbeats 4000000 in
set_option maxRecDepth 100000 in
theorem mX3_numberAt : xMet WX yX3_numberAt cX3_numberAt 2 (some .int) 3 pX3_numberAt fX3_numberAt := by
  refine xMet_of (fld := xlk fldX3) (cal := xlk calX3_numberAt) (ks := xlk []) (gs := xlk []) (ro := fun _ => none) 0 (by decide) WX_nd rfl fldX3_ok xKs_nil xGs_nil (Or.inr rfl) (xcal_cons (xCk_V mX3_elementAt 3 (by decide) (by decide) (by decide) rfl (fun as σ h _ => rX3_elementAt as σ h) w_X3_26 ⟨by decide, by decide, by decide +kernel⟩) xcal_nil) ?_ ?_
  · rintro av σ ⟨K, i, rfl, hpre⟩
    exact Nat.le_of_ble_eq_true rfl
  rintro av σ ⟨K, i, rfl, hp1⟩ Rt hR
  refine xgo0 7 ?_
  simp (config := {maxSteps := 2000000}) only [xwp_0, xwp_1, xws_s, xdd_o, xld_0, xld_s, xs1_0, xs1_1, xs1_s, xs2_0, xs2_1, xs2_s, xlg_n, xlg_i, xlg_r, xlg_z, xlg_l, xf4_0, xf4_1, xf4_2, xf4_3, xgo_e, xcmp_eq, xcmp_ne, xcmp_lt, xcmp_ge, xcmp_gt, xcmp_le, xfg_0, xfg_1, xfg_2, xfg_3, xfg_4, xpop_0, xpop_s, xsw_n, xsw_c, xtb_n, xtb_c, xenp_n, xenp_i, xenp_r, xenp_z, xenp_l, xrep_0, xrep_s, Nat.reduceSub, true_and, and_true, cat_i, cat_r, Nat.reduceAdd, Nat.reduceLT, Nat.reduceLeDiff, Nat.reduceEqDiff, xnc, Int.reduceAdd, Int.reduceSub, Int.reduceNeg, Int.reduceLE, Int.reduceLT, Int.reduceToNat, ↓reduceIte, List.length_cons, List.length_nil, xlc0, xlc1, ite_10, i10, i01, i0_2, i0_3, i0_4, i0_6, i0_7, i0_8, i0_49, i0_10, or_true, true_or, or_false, false_or, not_false_eq_true, not_true_eq_false, xnt, xI_g, eq_self, xI_2, xJ_1, false_and, and_false, obT_t, obS_t, ob6_t, ob2_t, ob0_t, kT1_t, kT2_t, kT3_t, kT4_t, lT1, lT2, rT6, rT7, rT8, rT9, rT1i, rT2i, rS2, kSe_t, lSe, r0_0, r0_1, r0_2, r0_3, r0_4, r0_5, r0_6, r0_7, r0_8, r0_9, r1_i, r2_4, r2_5, r4_4, a1_t, a3_t, a5_t, a6_t, a7_t, a8_t, l1, l3, l5, l6, l7, l8, T1, T2, T3, T4, nI8, nI6, nI160, nI20, nI401, nI49, ob5_t, ob1_t, vp_tn, tn_def, lgc, dX3_numberAt_0, st_aload_n, dX3_numberAt_1, st_iload_n, dX3_numberAt_2, st_invokevirtual, dX3_numberAt_5, st_l2i, dX3_numberAt_6, st_ireturn, c_X3_numberAt_26, pX3_elementAt_e, fX3_elementAt_e, Option.toList_some, Option.toList_none, List.cons_append, List.nil_append, hp1]
  try simp only [hR, fX3_numberAt_e, Option.some.injEq, Value.int.injEq, Value.long.injEq, Value.ref.injEq, and_true, true_and]
  all_goals grind
theorem rX3_numberAt : ∀ as σ, pX3_numberAt as σ → ∃ K as', as = .ref K :: as' ∧ xob WX K 3 := by
  rintro as σ ⟨K, i, rfl, hpre⟩
  exact ⟨_, _, rfl, by first | exact hpre | exact hpre.1 | exact obT hpre | exact obT hpre.1 | exact obS hpre | exact obS hpre.1 | exact obM | exact ob6 | exact ob2 | exact ob0⟩
def pX3_cutToSort (as : List Value) (σ : xS) : Prop := ∃ (K : Nat) (v : Int64), as = [.ref K, .long v] ∧ (xSh K)
def fX3_cutToSort (as : List Value) (σ : xS) : Option Value × xS := match as with
  | [.ref K, .long v] => (some (.long (xcut64 (σ.1 K 0) v)), σ)
  | _ => (none, σ)
theorem pX3_cutToSort_e {K : Nat} {v : Int64} {σ : xS} : pX3_cutToSort [.ref K, .long v] σ = (xSh K) := propext ⟨fun h => by obtain ⟨K, v, e, h⟩ := h; cases e; exact h, fun h => ⟨K, v, rfl, h⟩⟩
theorem fX3_cutToSort_e {K : Nat} {v : Int64} {σ : xS} : fX3_cutToSort [.ref K, .long v] σ = (some (.long (xcut64 (σ.1 K 0) v)), σ) := rfl
def calX3_cutToSort : List (Nat × xCall) := []
set_option maxHeartbeats 4000000 in
set_option maxRecDepth 100000 in
theorem mX3_cutToSort : xMet WX yX3_cutToSort cX3_cutToSort 3 (some .long) 1 pX3_cutToSort fX3_cutToSort := by
  refine xMet_of (fld := xlk fldX3) (cal := xlk calX3_cutToSort) (ks := xlk []) (gs := xlk []) (ro := fun _ => none) 2 (by decide) WX_nd rfl fldX3_ok xKs_nil xGs_nil (Or.inr rfl) xcal_nil ?_ ?_
  · rintro av σ ⟨K, v, rfl, hpre⟩
    exact Nat.le_of_ble_eq_true rfl
  rintro av σ ⟨K, v, rfl, hp1⟩ Rt hR
  refine xgo0 23 ?_
  simp (config := {maxSteps := 2000000}) only [xwp_0, xwp_1, xws_s, xdd_o, xld_0, xld_s, xs1_0, xs1_1, xs1_s, xs2_0, xs2_1, xs2_s, xlg_n, xlg_i, xlg_r, xlg_z, xlg_l, xf4_0, xf4_1, xf4_2, xf4_3, xgo_e, xcmp_eq, xcmp_ne, xcmp_lt, xcmp_ge, xcmp_gt, xcmp_le, xfg_0, xfg_1, xfg_2, xfg_3, xfg_4, xpop_0, xpop_s, xsw_n, xsw_c, xtb_n, xtb_c, xenp_n, xenp_i, xenp_r, xenp_z, xenp_l, xrep_0, xrep_s, Nat.reduceSub, true_and, and_true, cat_i, cat_r, Nat.reduceAdd, Nat.reduceLT, Nat.reduceLeDiff, Nat.reduceEqDiff, xnc, Int.reduceAdd, Int.reduceSub, Int.reduceNeg, Int.reduceLE, Int.reduceLT, Int.reduceToNat, ↓reduceIte, List.length_cons, List.length_nil, xlc0, xlc1, ite_10, i10, i01, i0_2, i0_3, i0_4, i0_6, i0_7, i0_8, i0_49, i0_10, or_true, true_or, or_false, false_or, not_false_eq_true, not_true_eq_false, xnt, xI_g, eq_self, xI_2, xJ_1, false_and, and_false, obT_t, obS_t, ob6_t, ob2_t, ob0_t, kT1_t, kT2_t, kT3_t, kT4_t, lT1, lT2, rT6, rT7, rT8, rT9, rT1i, rT2i, rS2, kSe_t, lSe, r0_0, r0_1, r0_2, r0_3, r0_4, r0_5, r0_6, r0_7, r0_8, r0_9, r1_i, r2_4, r2_5, r4_4, a1_t, a3_t, a5_t, a6_t, a7_t, a8_t, l1, l3, l5, l6, l7, l8, T1, T2, T3, T4, nI8, nI6, nI160, nI20, nI401, nI49, ob5_t, ob1_t, vp_tn, tn_def, lgc, dX3_cutToSort_0, st_aload_n, dX3_cutToSort_1, st_getfield, fl_X3_9, dX3_cutToSort_4, st_bipush, dX3_cutToSort_6, st_isub, dX3_cutToSort_7, st_tableswitch, dX3_cutToSort_32, st_lload_n, dX3_cutToSort_33, st_l2i, dX3_cutToSort_34, st_i2b, dX3_cutToSort_35, st_i2l, dX3_cutToSort_36, st_lreturn, dX3_cutToSort_37, dX3_cutToSort_38, dX3_cutToSort_39, st_i2s, dX3_cutToSort_40, dX3_cutToSort_41, dX3_cutToSort_42, dX3_cutToSort_43, dX3_cutToSort_44, dX3_cutToSort_45, dX3_cutToSort_46, dX3_cutToSort_47, ofI_100, ofI_m2, ofI_m1, ofI_0, ofI_1, ofI_2, ofI_3, ofI_4, ofI_5, ofI_6, ofI_7, ofI_8, ofI_9, ofI_10, ofI_11, hp1]
  simp only [hR, fX3_cutToSort_e, xcut64, Option.some.injEq, Value.long.injEq, and_true, true_and]
  all_goals grind
theorem rX3_cutToSort : ∀ as σ, pX3_cutToSort as σ → ∃ K as', as = .ref K :: as' ∧ xob WX K 3 := by
  rintro as σ ⟨K, v, rfl, hpre⟩
  exact ⟨_, _, rfl, by first | exact hpre | exact hpre.1 | exact obT hpre | exact obT hpre.1 | exact obS hpre | exact obS hpre.1 | exact obM | exact ob6 | exact ob2 | exact ob0⟩
def pX3_put (as : List Value) (σ : xS) : Prop := ∃ (K : Nat) (i : Int32) (v : Int64), as = [.ref K, .int i, .long v] ∧ (xSh K)
def fX3_put (as : List Value) (σ : xS) : Option Value × xS := match as with
  | [.ref K, .int i, .long v] => (none, if (0 ≤ i ∧ i < σ.1 K 1 ∧ i < 160) then xJ σ (K + 10) (tn i) (xcut64 (σ.1 K 0) v) else σ)
  | _ => (none, σ)
theorem pX3_put_e {K : Nat} {i : Int32} {v : Int64} {σ : xS} : pX3_put [.ref K, .int i, .long v] σ = (xSh K) := propext ⟨fun h => by obtain ⟨K, i, v, e, h⟩ := h; cases e; exact h, fun h => ⟨K, i, v, rfl, h⟩⟩
theorem fX3_put_e {K : Nat} {i : Int32} {v : Int64} {σ : xS} : fX3_put [.ref K, .int i, .long v] σ = (none, if (0 ≤ i ∧ i < σ.1 K 1 ∧ i < 160) then xJ σ (K + 10) (tn i) (xcut64 (σ.1 K 0) v) else σ) := rfl
def calX3_put : List (Nat × xCall) := [(22, (false, 2, pX3_reaches, fX3_reaches)), (30, (false, 2, pX3_cutToSort, fX3_cutToSort))]
theorem c_X3_put_22 : xlk calX3_put 22 = some (false, 2, pX3_reaches, fX3_reaches) := rfl
theorem c_X3_put_30 : xlk calX3_put 30 = some (false, 2, pX3_cutToSort, fX3_cutToSort) := rfl
set_option maxHeartbeats 4000000 in
set_option maxRecDepth 100000 in
theorem mX3_put : xMet WX yX3_put cX3_put 4 none 2 pX3_put fX3_put := by
  refine xMet_of (fld := xlk fldX3) (cal := xlk calX3_put) (ks := xlk []) (gs := xlk []) (ro := fun _ => none) 4 (by decide) WX_nd rfl fldX3_ok xKs_nil xGs_nil (Or.inr rfl) (xcal_cons (xCk_V mX3_reaches 3 (by decide) (by decide) (by decide) rfl (fun as σ h _ => rX3_reaches as σ h) w_X3_22 ⟨by decide, by decide, by decide +kernel⟩) (xcal_cons (xCk_V mX3_cutToSort 3 (by decide) (by decide) (by decide) rfl (fun as σ h _ => rX3_cutToSort as σ h) w_X3_30 ⟨by decide, by decide, by decide +kernel⟩) xcal_nil)) ?_ ?_
  · rintro av σ ⟨K, i, v, rfl, hpre⟩
    exact Nat.le_of_ble_eq_true rfl
  rintro av σ ⟨K, i, v, rfl, hp1⟩ Rt hR
  refine xgo0 14 ?_
  simp (config := {maxSteps := 2000000}) only [xwp_0, xwp_1, xws_s, xdd_o, xld_0, xld_s, xs1_0, xs1_1, xs1_s, xs2_0, xs2_1, xs2_s, xlg_n, xlg_i, xlg_r, xlg_z, xlg_l, xf4_0, xf4_1, xf4_2, xf4_3, xgo_e, xcmp_eq, xcmp_ne, xcmp_lt, xcmp_ge, xcmp_gt, xcmp_le, xfg_0, xfg_1, xfg_2, xfg_3, xfg_4, xpop_0, xpop_s, xsw_n, xsw_c, xtb_n, xtb_c, xenp_n, xenp_i, xenp_r, xenp_z, xenp_l, xrep_0, xrep_s, Nat.reduceSub, true_and, and_true, cat_i, cat_r, Nat.reduceAdd, Nat.reduceLT, Nat.reduceLeDiff, Nat.reduceEqDiff, xnc, Int.reduceAdd, Int.reduceSub, Int.reduceNeg, Int.reduceLE, Int.reduceLT, Int.reduceToNat, ↓reduceIte, List.length_cons, List.length_nil, xlc0, xlc1, ite_10, i10, i01, i0_2, i0_3, i0_4, i0_6, i0_7, i0_8, i0_49, i0_10, or_true, true_or, or_false, false_or, not_false_eq_true, not_true_eq_false, xnt, xI_g, eq_self, xI_2, xJ_1, false_and, and_false, obT_t, obS_t, ob6_t, ob2_t, ob0_t, kT1_t, kT2_t, kT3_t, kT4_t, lT1, lT2, rT6, rT7, rT8, rT9, rT1i, rT2i, rS2, kSe_t, lSe, r0_0, r0_1, r0_2, r0_3, r0_4, r0_5, r0_6, r0_7, r0_8, r0_9, r1_i, r2_4, r2_5, r4_4, a1_t, a3_t, a5_t, a6_t, a7_t, a8_t, l1, l3, l5, l6, l7, l8, T1, T2, T3, T4, nI8, nI6, nI160, nI20, nI401, nI49, ob5_t, ob1_t, vp_tn, tn_def, lgc, dX3_put_0, st_aload_n, dX3_put_1, st_iload_n, dX3_put_2, st_invokevirtual, dX3_put_5, st_ifCond, dX3_put_8, dX3_put_9, st_getfield, fl_X3_18, dX3_put_12, dX3_put_13, dX3_put_14, st_lload_n, dX3_put_15, dX3_put_18, st_lastore, dX3_put_19, st_return_, c_X3_put_22, pX3_reaches_e, fX3_reaches_e, Option.toList_some, Option.toList_none, List.cons_append, List.nil_append, c_X3_put_30, pX3_cutToSort_e, fX3_cutToSort_e, hp1]
  by_cases h : 0 ≤ i ∧ i < σ.1 K 1 ∧ i < 160
  · have h2 := xrch160 h
    simp only [h, hR, fX3_put_e, if_true, if_false, ite_10, i10, true_and, and_true, h2, not_true_eq_false, not_false_eq_true, false_implies, true_implies]
  · simp only [h, hR, fX3_put_e, if_true, if_false, i10, eq_self, true_and, and_true, not_true_eq_false, not_false_eq_true, false_implies, true_implies]
theorem rX3_put : ∀ as σ, pX3_put as σ → ∃ K as', as = .ref K :: as' ∧ xob WX K 3 := by
  rintro as σ ⟨K, i, v, rfl, hpre⟩
  exact ⟨_, _, rfl, by first | exact hpre | exact hpre.1 | exact obT hpre | exact obT hpre.1 | exact obS hpre | exact obS hpre.1 | exact obM | exact ob6 | exact ob2 | exact ob0⟩
def pX3_spans (as : List Value) (σ : xS) : Prop := ∃ (K : Nat) (i : Int32) (n : Int32), as = [.ref K, .int i, .int n] ∧ (xSh K)
def fX3_spans (as : List Value) (σ : xS) : Option Value × xS := match as with
  | [.ref K, .int i, .int n] => (some (.int (if 0 ≤ i ∧ 0 ≤ n ∧ σ.1 K 1 ≤ 160 ∧ n ≤ σ.1 K 1 - i then 1 else 0)), σ)
  | _ => (none, σ)
theorem pX3_spans_e {K : Nat} {i : Int32} {n : Int32} {σ : xS} : pX3_spans [.ref K, .int i, .int n] σ = (xSh K) := propext ⟨fun h => by obtain ⟨K, i, n, e, h⟩ := h; cases e; exact h, fun h => ⟨K, i, n, rfl, h⟩⟩
theorem fX3_spans_e {K : Nat} {i : Int32} {n : Int32} {σ : xS} : fX3_spans [.ref K, .int i, .int n] σ = (some (.int (if 0 ≤ i ∧ 0 ≤ n ∧ σ.1 K 1 ≤ 160 ∧ n ≤ σ.1 K 1 - i then 1 else 0)), σ) := rfl
def calX3_spans : List (Nat × xCall) := []
set_option maxHeartbeats 4000000 in
set_option maxRecDepth 100000 in
theorem mX3_spans : xMet WX yX3_spans cX3_spans 3 (some .boolean) 1 pX3_spans fX3_spans := by
  refine xMet_of (fld := xlk fldX3) (cal := xlk calX3_spans) (ks := xlk []) (gs := xlk []) (ro := fun _ => none) 1 (by decide) WX_nd rfl fldX3_ok xKs_nil xGs_nil (Or.inr rfl) xcal_nil ?_ ?_
  · rintro av σ ⟨K, i, n, rfl, hpre⟩
    exact Nat.le_of_ble_eq_true rfl
  rintro av σ ⟨K, i, n, rfl, hp1⟩ Rt hR
  refine xgo0 22 ?_
  simp (config := {maxSteps := 2000000}) only [xwp_0, xwp_1, xws_s, xdd_o, xld_0, xld_s, xs1_0, xs1_1, xs1_s, xs2_0, xs2_1, xs2_s, xlg_n, xlg_i, xlg_r, xlg_z, xlg_l, xf4_0, xf4_1, xf4_2, xf4_3, xgo_e, xcmp_eq, xcmp_ne, xcmp_lt, xcmp_ge, xcmp_gt, xcmp_le, xfg_0, xfg_1, xfg_2, xfg_3, xfg_4, xpop_0, xpop_s, xsw_n, xsw_c, xtb_n, xtb_c, xenp_n, xenp_i, xenp_r, xenp_z, xenp_l, xrep_0, xrep_s, Nat.reduceSub, true_and, and_true, cat_i, cat_r, Nat.reduceAdd, Nat.reduceLT, Nat.reduceLeDiff, Nat.reduceEqDiff, xnc, Int.reduceAdd, Int.reduceSub, Int.reduceNeg, Int.reduceLE, Int.reduceLT, Int.reduceToNat, ↓reduceIte, List.length_cons, List.length_nil, xlc0, xlc1, ite_10, i10, i01, i0_2, i0_3, i0_4, i0_6, i0_7, i0_8, i0_49, i0_10, or_true, true_or, or_false, false_or, not_false_eq_true, not_true_eq_false, xnt, xI_g, eq_self, xI_2, xJ_1, false_and, and_false, obT_t, obS_t, ob6_t, ob2_t, ob0_t, kT1_t, kT2_t, kT3_t, kT4_t, lT1, lT2, rT6, rT7, rT8, rT9, rT1i, rT2i, rS2, kSe_t, lSe, r0_0, r0_1, r0_2, r0_3, r0_4, r0_5, r0_6, r0_7, r0_8, r0_9, r1_i, r2_4, r2_5, r4_4, a1_t, a3_t, a5_t, a6_t, a7_t, a8_t, l1, l3, l5, l6, l7, l8, T1, T2, T3, T4, nI8, nI6, nI160, nI20, nI401, nI49, ob5_t, ob1_t, vp_tn, tn_def, lgc, dX3_spans_0, st_iload_n, dX3_spans_1, st_ifCond, dX3_spans_4, dX3_spans_5, dX3_spans_8, st_aload_n, dX3_spans_9, st_getfield, fl_X3_15, dX3_spans_12, dX3_spans_13, fl_X3_18, dX3_spans_16, st_arraylength, dX3_spans_17, st_if_icmp, dX3_spans_20, dX3_spans_21, dX3_spans_22, dX3_spans_25, dX3_spans_26, st_isub, dX3_spans_27, dX3_spans_30, st_iconst, dX3_spans_31, st_goto, dX3_spans_34, dX3_spans_35, st_ireturn, ofI_1, ofI_0, hp1]
  try simp only [hR, fX3_spans_e, Option.some.injEq, Value.int.injEq, Value.long.injEq, Value.ref.injEq, and_true, true_and]
  all_goals grind
theorem rX3_spans : ∀ as σ, pX3_spans as σ → ∃ K as', as = .ref K :: as' ∧ xob WX K 3 := by
  rintro as σ ⟨K, i, n, rfl, hpre⟩
  exact ⟨_, _, rfl, by first | exact hpre | exact hpre.1 | exact obT hpre | exact obT hpre.1 | exact obS hpre | exact obS hpre.1 | exact obM | exact ob6 | exact ob2 | exact ob0⟩
def pX3_beginRow (as : List Value) (σ : xS) : Prop := ∃ (K : Nat) (o : Int32) (n : Int32), as = [.ref K, .int o, .int n] ∧ (xSh K)
def fX3_beginRow (as : List Value) (σ : xS) : Option Value × xS := match as with
  | [.ref K, .int o, .int n] => (none, xJs (xI (xI σ K 0 (100 + o)) K 1 n) (K + 10) (fun j => if j < min (tn n) 160 then 0 else σ.2 (K + 10) j))
  | _ => (none, σ)
theorem pX3_beginRow_e {K : Nat} {o : Int32} {n : Int32} {σ : xS} : pX3_beginRow [.ref K, .int o, .int n] σ = (xSh K) := propext ⟨fun h => by obtain ⟨K, o, n, e, h⟩ := h; cases e; exact h, fun h => ⟨K, o, n, rfl, h⟩⟩
theorem fX3_beginRow_e {K : Nat} {o : Int32} {n : Int32} {σ : xS} : fX3_beginRow [.ref K, .int o, .int n] σ = (none, xJs (xI (xI σ K 0 (100 + o)) K 1 n) (K + 10) (fun j => if j < min (tn n) 160 then 0 else σ.2 (K + 10) j)) := rfl
def calX3_beginRow : List (Nat × xCall) := []
set_option maxHeartbeats 4000000 in
set_option maxRecDepth 100000 in
theorem mX3_beginRow : xMet WX yX3_beginRow cX3_beginRow 4 none 1 pX3_beginRow fX3_beginRow := by
  refine xMet_of (fld := xlk fldX3) (cal := xlk calX3_beginRow) (ks := xlk []) (gs := xlk []) (ro := fun _ => none) 4 (by decide) WX_nd rfl fldX3_ok xKs_nil xGs_nil (Or.inr rfl) xcal_nil ?_ ?_
  · rintro av σ ⟨K, o, n, rfl, hpre⟩
    exact Nat.le_of_ble_eq_true rfl
  rintro av σ ⟨K, o, n, rfl, hp1⟩ Rt hR
  refine xfor0 15 (min (tn n) 160) 60 20 (fun i => [some (.ref K), some (.int o), some (.int n), some (.int (nI i))]) (fun i => xJs (xI (xI σ K 0 (100 + o)) K 1 n) (K + 10) (fun j => if j < i then 0 else σ.2 (K + 10) j)) (fun i => True) (trivial) (fun i hi hH => ?_) ?_
  · simp only [xwp_0, xwp_1, xws_s, xdd_o, xld_0, xld_s, xs1_0, xs1_1, xs1_s, xs2_0, xs2_1, xs2_s, xlg_n, xlg_i, xlg_r, xlg_z, xlg_l, xf4_0, xf4_1, xf4_2, xf4_3, xgo_e, xcmp_eq, xcmp_ne, xcmp_lt, xcmp_ge, xcmp_gt, xcmp_le, xfg_0, xfg_1, xfg_2, xfg_3, xfg_4, xpop_0, xpop_s, xsw_n, xsw_c, xtb_n, xtb_c, xenp_n, xenp_i, xenp_r, xenp_z, xenp_l, xrep_0, xrep_s, Nat.reduceSub, true_and, and_true, cat_i, cat_r, Nat.reduceAdd, Nat.reduceLT, Nat.reduceLeDiff, Nat.reduceEqDiff, xnc, Int.reduceAdd, Int.reduceSub, Int.reduceNeg, Int.reduceLE, Int.reduceLT, Int.reduceToNat, ↓reduceIte, List.length_cons, List.length_nil, xlc0, xlc1, ite_10, i10, i01, i0_2, i0_3, i0_4, i0_6, i0_7, i0_8, i0_49, i0_10, or_true, true_or, or_false, false_or, not_false_eq_true, not_true_eq_false, xnt, xI_g, eq_self, xI_2, xJ_1, false_and, and_false, obT_t, obS_t, ob6_t, ob2_t, ob0_t, kT1_t, kT2_t, kT3_t, kT4_t, lT1, lT2, rT6, rT7, rT8, rT9, rT1i, rT2i, rS2, kSe_t, lSe, r0_0, r0_1, r0_2, r0_3, r0_4, r0_5, r0_6, r0_7, r0_8, r0_9, r1_i, r2_4, r2_5, r4_4, a1_t, a3_t, a5_t, a6_t, a7_t, a8_t, l1, l3, l5, l6, l7, l8, T1, T2, T3, T4, nI8, nI6, nI160, nI20, nI401, nI49, ob5_t, ob1_t, vp_tn, tn_def, lgc, dX3_beginRow_0, st_aload_n, dX3_beginRow_1, st_bipush, dX3_beginRow_3, st_iload_n, dX3_beginRow_4, st_iadd, dX3_beginRow_5, st_putfield, fl_X3_9, dX3_beginRow_8, dX3_beginRow_9, dX3_beginRow_10, fl_X3_15, dX3_beginRow_13, st_iconst, dX3_beginRow_14, st_istore_n, dX3_beginRow_15, dX3_beginRow_16, dX3_beginRow_17, st_if_icmp, dX3_beginRow_20, dX3_beginRow_21, dX3_beginRow_22, st_getfield, fl_X3_18, dX3_beginRow_25, st_arraylength, dX3_beginRow_26, dX3_beginRow_29, dX3_beginRow_30, dX3_beginRow_33, dX3_beginRow_34, st_lconst, dX3_beginRow_35, st_lastore, dX3_beginRow_36, st_iinc, dX3_beginRow_39, st_goto, dX3_beginRow_42, st_return_, ofI_100, ofI_0, ofI_1, hp1]
    have a1 := le_nI_tn (i := i) (x := n) (by omega)
    have a2 := le_nI_tn (i := i) (x := 160) (by have : tn 160 = 160 := by decide
                                                omega)
    have a3 : tn 160 = 160 := by decide
    refine ⟨fun h => ?_, fun h => ⟨fun h2 => ?_, fun h2 => ?_⟩⟩
    · rw [hR, fX3_beginRow_e]
      have e : i = min (tn n) 160 := by
        have := a1.mp h
        omega
      rw [← e]
      exact ⟨rfl, rfl⟩
    · rw [hR, fX3_beginRow_e]
      have e : i = min (tn n) 160 := by
        have := a2.mp h2
        omega
      rw [← e]
      exact ⟨rfl, rfl⟩
    · have e1 : i < tn n := by
        rw [a1] at h
        omega
      have e2 : i < 160 := by
        rw [a2] at h2
        omega
      rw [tn_nI (by omega)]
      refine ⟨⟨nI_pos' (by omega), e2⟩, by omega, ?_, ?_⟩
      · simp only [nI_1]
      · rw [xJ_xJs]
        exact xJs_e (fun j => by grind)
  · simp only [xwp_0, xwp_1, xws_s, xdd_o, xld_0, xld_s, xs1_0, xs1_1, xs1_s, xs2_0, xs2_1, xs2_s, xlg_n, xlg_i, xlg_r, xlg_z, xlg_l, xf4_0, xf4_1, xf4_2, xf4_3, xgo_e, xcmp_eq, xcmp_ne, xcmp_lt, xcmp_ge, xcmp_gt, xcmp_le, xfg_0, xfg_1, xfg_2, xfg_3, xfg_4, xpop_0, xpop_s, xsw_n, xsw_c, xtb_n, xtb_c, xenp_n, xenp_i, xenp_r, xenp_z, xenp_l, xrep_0, xrep_s, Nat.reduceSub, true_and, and_true, cat_i, cat_r, Nat.reduceAdd, Nat.reduceLT, Nat.reduceLeDiff, Nat.reduceEqDiff, xnc, Int.reduceAdd, Int.reduceSub, Int.reduceNeg, Int.reduceLE, Int.reduceLT, Int.reduceToNat, ↓reduceIte, List.length_cons, List.length_nil, xlc0, xlc1, ite_10, i10, i01, i0_2, i0_3, i0_4, i0_6, i0_7, i0_8, i0_49, i0_10, or_true, true_or, or_false, false_or, not_false_eq_true, not_true_eq_false, xnt, xI_g, eq_self, xI_2, xJ_1, false_and, and_false, obT_t, obS_t, ob6_t, ob2_t, ob0_t, kT1_t, kT2_t, kT3_t, kT4_t, lT1, lT2, rT6, rT7, rT8, rT9, rT1i, rT2i, rS2, kSe_t, lSe, r0_0, r0_1, r0_2, r0_3, r0_4, r0_5, r0_6, r0_7, r0_8, r0_9, r1_i, r2_4, r2_5, r4_4, a1_t, a3_t, a5_t, a6_t, a7_t, a8_t, l1, l3, l5, l6, l7, l8, T1, T2, T3, T4, nI8, nI6, nI160, nI20, nI401, nI49, ob5_t, ob1_t, vp_tn, tn_def, lgc, dX3_beginRow_0, st_aload_n, dX3_beginRow_1, st_bipush, dX3_beginRow_3, st_iload_n, dX3_beginRow_4, st_iadd, dX3_beginRow_5, st_putfield, fl_X3_9, dX3_beginRow_8, dX3_beginRow_9, dX3_beginRow_10, fl_X3_15, dX3_beginRow_13, st_iconst, dX3_beginRow_14, st_istore_n, dX3_beginRow_15, dX3_beginRow_16, dX3_beginRow_17, st_if_icmp, dX3_beginRow_20, dX3_beginRow_21, dX3_beginRow_22, st_getfield, fl_X3_18, dX3_beginRow_25, st_arraylength, dX3_beginRow_26, dX3_beginRow_29, dX3_beginRow_30, dX3_beginRow_33, dX3_beginRow_34, st_lconst, dX3_beginRow_35, st_lastore, dX3_beginRow_36, st_iinc, dX3_beginRow_39, st_goto, dX3_beginRow_42, st_return_, ofI_100, ofI_0, ofI_1, hp1]
    first | exact (xJs_i (fun j => by simp [xI_2])).symm | exact ⟨rfl, (xJs_i (fun j => by simp [xI_2])).symm⟩ | exact ⟨rfl, rfl, (xJs_i (fun j => by simp [xI_2])).symm⟩
theorem rX3_beginRow : ∀ as σ, pX3_beginRow as σ → ∃ K as', as = .ref K :: as' ∧ xob WX K 3 := by
  rintro as σ ⟨K, o, n, rfl, hpre⟩
  exact ⟨_, _, rfl, by first | exact hpre | exact hpre.1 | exact obT hpre | exact obT hpre.1 | exact obS hpre | exact obS hpre.1 | exact obM | exact ob6 | exact ob2 | exact ob0⟩
def pX3_takeOver (as : List Value) (σ : xS) : Prop := ∃ (K : Nat) (J : Nat) (i : Int32) (j : Int32) (n : Int32), as = [.ref K, .ref J, .int i, .int j, .int n] ∧ ((xSh K) ∧ (xSh J) ∧ (0 ≤ σ.1 K 1) ∧ (0 ≤ σ.1 J 1))
def fX3_takeOver (as : List Value) (σ : xS) : Option Value × xS := match as with
  | [.ref K, .ref J, .int i, .int j, .int n] => (some (.int (if (0 ≤ i ∧ 0 ≤ n ∧ σ.1 J 1 ≤ 160 ∧ n ≤ σ.1 J 1 - i) ∧ (0 ≤ j ∧ 0 ≤ n ∧ σ.1 K 1 ≤ 160 ∧ n ≤ σ.1 K 1 - j) then 1 else 0)), if (0 ≤ i ∧ 0 ≤ n ∧ σ.1 J 1 ≤ 160 ∧ n ≤ σ.1 J 1 - i) ∧ (0 ≤ j ∧ 0 ≤ n ∧ σ.1 K 1 ≤ 160 ∧ n ≤ σ.1 K 1 - j) then xJs σ (K + 10) (va_cpy (σ.2 (J + 10)) (σ.2 (K + 10)) (tn i) (tn j) (tn n)) else σ)
  | _ => (none, σ)
theorem pX3_takeOver_e {K : Nat} {J : Nat} {i : Int32} {j : Int32} {n : Int32} {σ : xS} : pX3_takeOver [.ref K, .ref J, .int i, .int j, .int n] σ = ((xSh K) ∧ (xSh J) ∧ (0 ≤ σ.1 K 1) ∧ (0 ≤ σ.1 J 1)) := propext ⟨fun h => by obtain ⟨K, J, i, j, n, e, h⟩ := h; cases e; exact h, fun h => ⟨K, J, i, j, n, rfl, h⟩⟩
theorem fX3_takeOver_e {K : Nat} {J : Nat} {i : Int32} {j : Int32} {n : Int32} {σ : xS} : fX3_takeOver [.ref K, .ref J, .int i, .int j, .int n] σ = (some (.int (if (0 ≤ i ∧ 0 ≤ n ∧ σ.1 J 1 ≤ 160 ∧ n ≤ σ.1 J 1 - i) ∧ (0 ≤ j ∧ 0 ≤ n ∧ σ.1 K 1 ≤ 160 ∧ n ≤ σ.1 K 1 - j) then 1 else 0)), if (0 ≤ i ∧ 0 ≤ n ∧ σ.1 J 1 ≤ 160 ∧ n ≤ σ.1 J 1 - i) ∧ (0 ≤ j ∧ 0 ≤ n ∧ σ.1 K 1 ≤ 160 ∧ n ≤ σ.1 K 1 - j) then xJs σ (K + 10) (va_cpy (σ.2 (J + 10)) (σ.2 (K + 10)) (tn i) (tn j) (tn n)) else σ) := rfl
def calX3_takeOver : List (Nat × xCall) := [(34, (false, 3, pX3_spans, fX3_spans)), (38, (true, 5, pCpy WX, fCpy))]
theorem c_X3_takeOver_34 : xlk calX3_takeOver 34 = some (false, 3, pX3_spans, fX3_spans) := rfl
theorem c_X3_takeOver_38 : xlk calX3_takeOver 38 = some (true, 5, pCpy WX, fCpy) := rfl
set_option maxHeartbeats 4000000 in
set_option maxRecDepth 100000 in
theorem mX3_takeOver : xMet WX yX3_takeOver cX3_takeOver 5 (some .boolean) 2 pX3_takeOver fX3_takeOver := by
  refine xMet_of (fld := xlk fldX3) (cal := xlk calX3_takeOver) (ks := xlk []) (gs := xlk []) (ro := fun _ => none) 1 (by decide) WX_nd rfl fldX3_ok xKs_nil xGs_nil (Or.inr rfl) (xcal_cons (xCk_V mX3_spans 3 (by decide) (by decide) (by decide) rfl (fun as σ h _ => rX3_spans as σ h) w_X3_34 ⟨by decide, by decide, by decide +kernel⟩) (xcal_cons (xCk_cpy (by decide) w_X3_38) xcal_nil)) ?_ ?_
  · rintro av σ ⟨K, J, i, j, n, rfl, hpre⟩
    exact Nat.le_of_ble_eq_true rfl
  rintro av σ ⟨K, J, i, j, n, rfl, ⟨hp1, hp2, hp3, hp4⟩⟩ Rt hR
  refine xgo0 24 ?_
  simp (config := {maxSteps := 2000000}) only [xwp_0, xwp_1, xws_s, xdd_o, xld_0, xld_s, xs1_0, xs1_1, xs1_s, xs2_0, xs2_1, xs2_s, xlg_n, xlg_i, xlg_r, xlg_z, xlg_l, xf4_0, xf4_1, xf4_2, xf4_3, xgo_e, xcmp_eq, xcmp_ne, xcmp_lt, xcmp_ge, xcmp_gt, xcmp_le, xfg_0, xfg_1, xfg_2, xfg_3, xfg_4, xpop_0, xpop_s, xsw_n, xsw_c, xtb_n, xtb_c, xenp_n, xenp_i, xenp_r, xenp_z, xenp_l, xrep_0, xrep_s, Nat.reduceSub, true_and, and_true, cat_i, cat_r, Nat.reduceAdd, Nat.reduceLT, Nat.reduceLeDiff, Nat.reduceEqDiff, xnc, Int.reduceAdd, Int.reduceSub, Int.reduceNeg, Int.reduceLE, Int.reduceLT, Int.reduceToNat, ↓reduceIte, List.length_cons, List.length_nil, xlc0, xlc1, ite_10, i10, i01, i0_2, i0_3, i0_4, i0_6, i0_7, i0_8, i0_49, i0_10, or_true, true_or, or_false, false_or, not_false_eq_true, not_true_eq_false, xnt, xI_g, eq_self, xI_2, xJ_1, false_and, and_false, obT_t, obS_t, ob6_t, ob2_t, ob0_t, kT1_t, kT2_t, kT3_t, kT4_t, lT1, lT2, rT6, rT7, rT8, rT9, rT1i, rT2i, rS2, kSe_t, lSe, r0_0, r0_1, r0_2, r0_3, r0_4, r0_5, r0_6, r0_7, r0_8, r0_9, r1_i, r2_4, r2_5, r4_4, a1_t, a3_t, a5_t, a6_t, a7_t, a8_t, l1, l3, l5, l6, l7, l8, T1, T2, T3, T4, nI8, nI6, nI160, nI20, nI401, nI49, ob5_t, ob1_t, vp_tn, tn_def, lgc, dX3_takeOver_0, st_aload_n, dX3_takeOver_1, st_iload_n, dX3_takeOver_2, st_iload, dX3_takeOver_4, st_invokevirtual, dX3_takeOver_7, st_ifCond, dX3_takeOver_10, dX3_takeOver_11, dX3_takeOver_12, dX3_takeOver_14, dX3_takeOver_17, dX3_takeOver_20, st_iconst, dX3_takeOver_21, st_ireturn, dX3_takeOver_22, dX3_takeOver_23, st_getfield, fl_X3_18, dX3_takeOver_26, dX3_takeOver_27, dX3_takeOver_28, dX3_takeOver_31, dX3_takeOver_32, dX3_takeOver_34, st_invokestatic, dX3_takeOver_37, dX3_takeOver_38, c_X3_takeOver_34, pX3_spans_e, fX3_spans_e, Option.toList_some, Option.toList_none, List.cons_append, List.nil_append, c_X3_takeOver_38, pCpy_e, fCpy_e, ofI_0, ofI_1, hp1, hp2, hp3, hp4]
  have key : ∀ (z a n : Int32), 0 ≤ z → (0 ≤ a ∧ 0 ≤ n ∧ z ≤ 160 ∧ n ≤ z - a) → tn a + tn n ≤ 160 := by
    intro z a n h0 h
    simp only [t_le, t_0, t_160] at h h0
    have g := t_rng a
    rw [t_sub (by omega) (by omega)] at h
    rw [t_tn, t_tn]
    omega
  have k1 := key (σ.1 J 1) i n hp4
  have k2 := key (σ.1 K 1) j n hp3
  simp only [hR, fX3_takeOver_e]
  all_goals grind
theorem rX3_takeOver : ∀ as σ, pX3_takeOver as σ → ∃ K as', as = .ref K :: as' ∧ xob WX K 3 := by
  rintro as σ ⟨K, J, i, j, n, rfl, hpre⟩
  exact ⟨_, _, rfl, by first | exact hpre | exact hpre.1 | exact obT hpre | exact obT hpre.1 | exact obS hpre | exact obS hpre.1 | exact obM | exact ob6 | exact ob2 | exact ob0⟩
