theorem xwk6 {x : Int32} (h : x ≤ 6) : tn x ≤ 6 := by
  have h1 : x.toInt ≤ 6 := by simpa using Int32.le_iff_toInt_le.mp h
  show x.toInt.toNat ≤ 6
  omega
theorem xwk8 {x : Int32} (h : x ≤ 8) : tn x ≤ 8 := by
  have h1 : x.toInt ≤ 8 := by simpa using Int32.le_iff_toInt_le.mp h
  show x.toInt.toNat ≤ 8
  omega
theorem xall_s {P : Nat → Bool} {i : Nat} (h : ∀ j, j < i → P j = false) (h2 : P i = false) : ∀ j, j < i + 1 → P j = false := by
  intro j hj
  by_cases e : j = i
  · rw [e]; exact h2
  · exact h j (by omega)
def xfirst (P : Nat → Bool) (n : Nat) : Int32 := if xfs P n < n then nI (xfs P n) else -1
theorem xfirst_no {P : Nat → Bool} {n : Nat} (h : ∀ i, i < n → P i = false) : xfirst P n = -1 := by
  rw [xfirst, xfs_no h, if_neg (Nat.lt_irrefl n)]
theorem xfirst_at {P : Nat → Bool} {n i : Nat} (hi : i < n) (hp : P i = true) (h : ∀ j, j < i → P j = false) : xfirst P n = nI i := by
  rw [xfirst, xfs_at hi hp h, if_pos hi]
/-- a walker becomes as another -/
def cpW (σ : xS) (K J : Nat) : xS := xI (xI (xI (xI (xI (xI (xI σ K 0 (σ.1 J 0)) K 1 (σ.1 J 1)) K 2 (σ.1 J 2)) K 3 (σ.1 J 3)) K 4 (σ.1 J 4)) K 5 (σ.1 J 5)) K 6 (σ.1 J 6)
/-- a gait becomes as another -/
def cpG (σ : xS) (K J : Nat) : xS := xI (xI (xI σ K 0 (σ.1 J 0)) K 1 (σ.1 J 1)) K 2 (σ.1 J 2)
/-- what the loop's own name of the last walker holds -/
def xlast (B : Nat) : Nat → Option Value
  | 0 => none
  | i + 1 => some (.ref (B + 20 + i))
/-- a place is a wall, by the bits -/
def xwl (x : Int64) (p : Int32) : Prop := xlushr x p &&& 1 = 1
def xwlb (x : Int64) (p : Int32) : Bool := decide (xlushr x p &&& 1 = 1)
def xwp_put (x : Int64) (p b : Int32) : Int64 := if b = 0 then x &&& (xlshl 1 p ^^^ -1) else x ||| xlshl 1 p
def pX4_hasGait (as : List Value) (σ : xS) : Prop := ∃ (B : Nat) (x : Int32), as = [.ref B, .int x] ∧ (xTw B)
def fX4_hasGait (as : List Value) (σ : xS) : Option Value × xS := match as with
  | [.ref B, .int x] => (some (.int (if 0 ≤ x ∧ x < σ.1 B 1 then 1 else 0)), σ)
  | _ => (none, σ)
theorem pX4_hasGait_e {B : Nat} {x : Int32} {σ : xS} : pX4_hasGait [.ref B, .int x] σ = (xTw B) := propext ⟨fun h => by obtain ⟨B, x, e, h⟩ := h; cases e; exact h, fun h => ⟨B, x, rfl, h⟩⟩
theorem fX4_hasGait_e {B : Nat} {x : Int32} {σ : xS} : fX4_hasGait [.ref B, .int x] σ = (some (.int (if 0 ≤ x ∧ x < σ.1 B 1 then 1 else 0)), σ) := rfl
def calX4_hasGait : List (Nat × xCall) := []
set_option maxHeartbeats 4000000 in
set_option maxRecDepth 100000 in
theorem mX4_hasGait : xMet WX yX4_hasGait cX4_hasGait 2 (some .boolean) 1 pX4_hasGait fX4_hasGait := by
  refine xMet_of (fld := xlk fldX4) (cal := xlk calX4_hasGait) (ks := xlk []) (gs := xlk []) (ro := fun _ => none) 1 (by decide) WX_nd rfl fldX4_ok xKs_nil xGs_nil (Or.inr rfl) xcal_nil ?_ ?_
  · rintro av σ ⟨B, x, rfl, hpre⟩
    exact Nat.le_of_ble_eq_true rfl
  rintro av σ ⟨B, x, rfl, hp1⟩ Rt hR
  refine xgo0 12 ?_
  simp (config := {maxSteps := 2000000}) only [xwp_0, xwp_1, xws_s, xdd_o, xld_0, xld_s, xs1_0, xs1_1, xs1_s, xs2_0, xs2_1, xs2_s, xlg_n, xlg_i, xlg_r, xlg_z, xlg_l, xf4_0, xf4_1, xf4_2, xf4_3, xgo_e, xcmp_eq, xcmp_ne, xcmp_lt, xcmp_ge, xcmp_gt, xcmp_le, xfg_0, xfg_1, xfg_2, xfg_3, xfg_4, xpop_0, xpop_s, xsw_n, xsw_c, xtb_n, xtb_c, xenp_n, xenp_i, xenp_r, xenp_z, xenp_l, xrep_0, xrep_s, Nat.reduceSub, true_and, and_true, cat_i, cat_r, Nat.reduceAdd, Nat.reduceLT, Nat.reduceLeDiff, Nat.reduceEqDiff, xnc, Int.reduceAdd, Int.reduceSub, Int.reduceNeg, Int.reduceLE, Int.reduceLT, Int.reduceToNat, ↓reduceIte, List.length_cons, List.length_nil, xlc0, xlc1, ite_10, i10, i01, i0_2, i0_3, i0_4, i0_6, i0_7, i0_8, i0_49, i0_10, or_true, true_or, or_false, false_or, not_false_eq_true, not_true_eq_false, xnt, xI_g, eq_self, xI_2, xJ_1, false_and, and_false, obT_t, obS_t, ob6_t, ob2_t, ob0_t, kT1_t, kT2_t, kT3_t, kT4_t, lT1, lT2, rT6, rT7, rT8, rT9, rT1i, rT2i, rS2, kSe_t, lSe, r0_0, r0_1, r0_2, r0_3, r0_4, r0_5, r0_6, r0_7, r0_8, r0_9, r1_i, r2_4, r2_5, r4_4, a1_t, a3_t, a5_t, a6_t, a7_t, a8_t, l1, l3, l5, l6, l7, l8, T1, T2, T3, T4, nI8, nI6, nI160, nI20, nI401, nI49, ob5_t, ob1_t, vp_tn, tn_def, lgc, dX4_hasGait_0, st_iload_n, dX4_hasGait_1, st_ifCond, dX4_hasGait_4, dX4_hasGait_5, st_aload_n, dX4_hasGait_6, st_getfield, fl_X4_15, dX4_hasGait_9, st_if_icmp, dX4_hasGait_12, st_iconst, dX4_hasGait_13, st_goto, dX4_hasGait_16, dX4_hasGait_17, st_ireturn, ofI_1, ofI_0, hp1]
  try simp only [hR, fX4_hasGait_e, Option.some.injEq, Value.int.injEq, Value.long.injEq, Value.ref.injEq, and_true, true_and]
  all_goals grind
theorem rX4_hasGait : ∀ as σ, pX4_hasGait as σ → ∃ K as', as = .ref K :: as' ∧ xob WX K 4 := by
  rintro as σ ⟨B, x, rfl, hpre⟩
  exact ⟨_, _, rfl, by first | exact hpre | exact hpre.1 | exact obT hpre | exact obT hpre.1 | exact obS hpre | exact obS hpre.1 | exact obM | exact ob6 | exact ob2 | exact ob0⟩
def pX4_hasWalker (as : List Value) (σ : xS) : Prop := ∃ (B : Nat) (x : Int32), as = [.ref B, .int x] ∧ (xTw B)
def fX4_hasWalker (as : List Value) (σ : xS) : Option Value × xS := match as with
  | [.ref B, .int x] => (some (.int (if 0 ≤ x ∧ x < σ.1 B 2 then 1 else 0)), σ)
  | _ => (none, σ)
theorem pX4_hasWalker_e {B : Nat} {x : Int32} {σ : xS} : pX4_hasWalker [.ref B, .int x] σ = (xTw B) := propext ⟨fun h => by obtain ⟨B, x, e, h⟩ := h; cases e; exact h, fun h => ⟨B, x, rfl, h⟩⟩
theorem fX4_hasWalker_e {B : Nat} {x : Int32} {σ : xS} : fX4_hasWalker [.ref B, .int x] σ = (some (.int (if 0 ≤ x ∧ x < σ.1 B 2 then 1 else 0)), σ) := rfl
def calX4_hasWalker : List (Nat × xCall) := []
set_option maxHeartbeats 4000000 in
set_option maxRecDepth 100000 in
theorem mX4_hasWalker : xMet WX yX4_hasWalker cX4_hasWalker 2 (some .boolean) 1 pX4_hasWalker fX4_hasWalker := by
  refine xMet_of (fld := xlk fldX4) (cal := xlk calX4_hasWalker) (ks := xlk []) (gs := xlk []) (ro := fun _ => none) 1 (by decide) WX_nd rfl fldX4_ok xKs_nil xGs_nil (Or.inr rfl) xcal_nil ?_ ?_
  · rintro av σ ⟨B, x, rfl, hpre⟩
    exact Nat.le_of_ble_eq_true rfl
  rintro av σ ⟨B, x, rfl, hp1⟩ Rt hR
  refine xgo0 12 ?_
  simp (config := {maxSteps := 2000000}) only [xwp_0, xwp_1, xws_s, xdd_o, xld_0, xld_s, xs1_0, xs1_1, xs1_s, xs2_0, xs2_1, xs2_s, xlg_n, xlg_i, xlg_r, xlg_z, xlg_l, xf4_0, xf4_1, xf4_2, xf4_3, xgo_e, xcmp_eq, xcmp_ne, xcmp_lt, xcmp_ge, xcmp_gt, xcmp_le, xfg_0, xfg_1, xfg_2, xfg_3, xfg_4, xpop_0, xpop_s, xsw_n, xsw_c, xtb_n, xtb_c, xenp_n, xenp_i, xenp_r, xenp_z, xenp_l, xrep_0, xrep_s, Nat.reduceSub, true_and, and_true, cat_i, cat_r, Nat.reduceAdd, Nat.reduceLT, Nat.reduceLeDiff, Nat.reduceEqDiff, xnc, Int.reduceAdd, Int.reduceSub, Int.reduceNeg, Int.reduceLE, Int.reduceLT, Int.reduceToNat, ↓reduceIte, List.length_cons, List.length_nil, xlc0, xlc1, ite_10, i10, i01, i0_2, i0_3, i0_4, i0_6, i0_7, i0_8, i0_49, i0_10, or_true, true_or, or_false, false_or, not_false_eq_true, not_true_eq_false, xnt, xI_g, eq_self, xI_2, xJ_1, false_and, and_false, obT_t, obS_t, ob6_t, ob2_t, ob0_t, kT1_t, kT2_t, kT3_t, kT4_t, lT1, lT2, rT6, rT7, rT8, rT9, rT1i, rT2i, rS2, kSe_t, lSe, r0_0, r0_1, r0_2, r0_3, r0_4, r0_5, r0_6, r0_7, r0_8, r0_9, r1_i, r2_4, r2_5, r4_4, a1_t, a3_t, a5_t, a6_t, a7_t, a8_t, l1, l3, l5, l6, l7, l8, T1, T2, T3, T4, nI8, nI6, nI160, nI20, nI401, nI49, ob5_t, ob1_t, vp_tn, tn_def, lgc, dX4_hasWalker_0, st_iload_n, dX4_hasWalker_1, st_ifCond, dX4_hasWalker_4, dX4_hasWalker_5, st_aload_n, dX4_hasWalker_6, st_getfield, fl_X4_19, dX4_hasWalker_9, st_if_icmp, dX4_hasWalker_12, st_iconst, dX4_hasWalker_13, st_goto, dX4_hasWalker_16, dX4_hasWalker_17, st_ireturn, ofI_1, ofI_0, hp1]
  try simp only [hR, fX4_hasWalker_e, Option.some.injEq, Value.int.injEq, Value.long.injEq, Value.ref.injEq, and_true, true_and]
  all_goals grind
theorem rX4_hasWalker : ∀ as σ, pX4_hasWalker as σ → ∃ K as', as = .ref K :: as' ∧ xob WX K 4 := by
  rintro as σ ⟨B, x, rfl, hpre⟩
  exact ⟨_, _, rfl, by first | exact hpre | exact hpre.1 | exact obT hpre | exact obT hpre.1 | exact obS hpre | exact obS hpre.1 | exact obM | exact ob6 | exact ob2 | exact ob0⟩
def pX4_hasRoomForGait (as : List Value) (σ : xS) : Prop := ∃ (B : Nat), as = [.ref B] ∧ (xTw B)
def fX4_hasRoomForGait (as : List Value) (σ : xS) : Option Value × xS := match as with
  | [.ref B] => (some (.int (if σ.1 B 1 < 8 then 1 else 0)), σ)
  | _ => (none, σ)
theorem pX4_hasRoomForGait_e {B : Nat} {σ : xS} : pX4_hasRoomForGait [.ref B] σ = (xTw B) := propext ⟨fun h => by obtain ⟨B, e, h⟩ := h; cases e; exact h, fun h => ⟨B, rfl, h⟩⟩
theorem fX4_hasRoomForGait_e {B : Nat} {σ : xS} : fX4_hasRoomForGait [.ref B] σ = (some (.int (if σ.1 B 1 < 8 then 1 else 0)), σ) := rfl
def calX4_hasRoomForGait : List (Nat × xCall) := []
set_option maxHeartbeats 4000000 in
set_option maxRecDepth 100000 in
theorem mX4_hasRoomForGait : xMet WX yX4_hasRoomForGait cX4_hasRoomForGait 1 (some .boolean) 1 pX4_hasRoomForGait fX4_hasRoomForGait := by
  refine xMet_of (fld := xlk fldX4) (cal := xlk calX4_hasRoomForGait) (ks := xlk []) (gs := xlk []) (ro := fun _ => none) 1 (by decide) WX_nd rfl fldX4_ok xKs_nil xGs_nil (Or.inr rfl) xcal_nil ?_ ?_
  · rintro av σ ⟨B, rfl, hpre⟩
    exact Nat.le_of_ble_eq_true rfl
  rintro av σ ⟨B, rfl, hp1⟩ Rt hR
  refine xgo0 10 ?_
  simp (config := {maxSteps := 2000000}) only [xwp_0, xwp_1, xws_s, xdd_o, xld_0, xld_s, xs1_0, xs1_1, xs1_s, xs2_0, xs2_1, xs2_s, xlg_n, xlg_i, xlg_r, xlg_z, xlg_l, xf4_0, xf4_1, xf4_2, xf4_3, xgo_e, xcmp_eq, xcmp_ne, xcmp_lt, xcmp_ge, xcmp_gt, xcmp_le, xfg_0, xfg_1, xfg_2, xfg_3, xfg_4, xpop_0, xpop_s, xsw_n, xsw_c, xtb_n, xtb_c, xenp_n, xenp_i, xenp_r, xenp_z, xenp_l, xrep_0, xrep_s, Nat.reduceSub, true_and, and_true, cat_i, cat_r, Nat.reduceAdd, Nat.reduceLT, Nat.reduceLeDiff, Nat.reduceEqDiff, xnc, Int.reduceAdd, Int.reduceSub, Int.reduceNeg, Int.reduceLE, Int.reduceLT, Int.reduceToNat, ↓reduceIte, List.length_cons, List.length_nil, xlc0, xlc1, ite_10, i10, i01, i0_2, i0_3, i0_4, i0_6, i0_7, i0_8, i0_49, i0_10, or_true, true_or, or_false, false_or, not_false_eq_true, not_true_eq_false, xnt, xI_g, eq_self, xI_2, xJ_1, false_and, and_false, obT_t, obS_t, ob6_t, ob2_t, ob0_t, kT1_t, kT2_t, kT3_t, kT4_t, lT1, lT2, rT6, rT7, rT8, rT9, rT1i, rT2i, rS2, kSe_t, lSe, r0_0, r0_1, r0_2, r0_3, r0_4, r0_5, r0_6, r0_7, r0_8, r0_9, r1_i, r2_4, r2_5, r4_4, a1_t, a3_t, a5_t, a6_t, a7_t, a8_t, l1, l3, l5, l6, l7, l8, T1, T2, T3, T4, nI8, nI6, nI160, nI20, nI401, nI49, ob5_t, ob1_t, vp_tn, tn_def, lgc, dX4_hasRoomForGait_0, st_aload_n, dX4_hasRoomForGait_1, st_getfield, fl_X4_15, dX4_hasRoomForGait_4, st_bipush, dX4_hasRoomForGait_6, st_if_icmp, dX4_hasRoomForGait_9, st_iconst, dX4_hasRoomForGait_10, st_goto, dX4_hasRoomForGait_13, dX4_hasRoomForGait_14, st_ireturn, ofI_8, ofI_1, ofI_0, hp1]
  try simp only [hR, fX4_hasRoomForGait_e, Option.some.injEq, Value.int.injEq, Value.long.injEq, Value.ref.injEq, and_true, true_and]
  all_goals grind
theorem rX4_hasRoomForGait : ∀ as σ, pX4_hasRoomForGait as σ → ∃ K as', as = .ref K :: as' ∧ xob WX K 4 := by
  rintro as σ ⟨B, rfl, hpre⟩
  exact ⟨_, _, rfl, by first | exact hpre | exact hpre.1 | exact obT hpre | exact obT hpre.1 | exact obS hpre | exact obS hpre.1 | exact obM | exact ob6 | exact ob2 | exact ob0⟩
def pX4_hasRoomForWalker (as : List Value) (σ : xS) : Prop := ∃ (B : Nat), as = [.ref B] ∧ (xTw B)
def fX4_hasRoomForWalker (as : List Value) (σ : xS) : Option Value × xS := match as with
  | [.ref B] => (some (.int (if σ.1 B 2 < 6 then 1 else 0)), σ)
  | _ => (none, σ)
theorem pX4_hasRoomForWalker_e {B : Nat} {σ : xS} : pX4_hasRoomForWalker [.ref B] σ = (xTw B) := propext ⟨fun h => by obtain ⟨B, e, h⟩ := h; cases e; exact h, fun h => ⟨B, rfl, h⟩⟩
theorem fX4_hasRoomForWalker_e {B : Nat} {σ : xS} : fX4_hasRoomForWalker [.ref B] σ = (some (.int (if σ.1 B 2 < 6 then 1 else 0)), σ) := rfl
def calX4_hasRoomForWalker : List (Nat × xCall) := []
set_option maxHeartbeats 4000000 in
set_option maxRecDepth 100000 in
theorem mX4_hasRoomForWalker : xMet WX yX4_hasRoomForWalker cX4_hasRoomForWalker 1 (some .boolean) 1 pX4_hasRoomForWalker fX4_hasRoomForWalker := by
  refine xMet_of (fld := xlk fldX4) (cal := xlk calX4_hasRoomForWalker) (ks := xlk []) (gs := xlk []) (ro := fun _ => none) 1 (by decide) WX_nd rfl fldX4_ok xKs_nil xGs_nil (Or.inr rfl) xcal_nil ?_ ?_
  · rintro av σ ⟨B, rfl, hpre⟩
    exact Nat.le_of_ble_eq_true rfl
  rintro av σ ⟨B, rfl, hp1⟩ Rt hR
  refine xgo0 10 ?_
  simp (config := {maxSteps := 2000000}) only [xwp_0, xwp_1, xws_s, xdd_o, xld_0, xld_s, xs1_0, xs1_1, xs1_s, xs2_0, xs2_1, xs2_s, xlg_n, xlg_i, xlg_r, xlg_z, xlg_l, xf4_0, xf4_1, xf4_2, xf4_3, xgo_e, xcmp_eq, xcmp_ne, xcmp_lt, xcmp_ge, xcmp_gt, xcmp_le, xfg_0, xfg_1, xfg_2, xfg_3, xfg_4, xpop_0, xpop_s, xsw_n, xsw_c, xtb_n, xtb_c, xenp_n, xenp_i, xenp_r, xenp_z, xenp_l, xrep_0, xrep_s, Nat.reduceSub, true_and, and_true, cat_i, cat_r, Nat.reduceAdd, Nat.reduceLT, Nat.reduceLeDiff, Nat.reduceEqDiff, xnc, Int.reduceAdd, Int.reduceSub, Int.reduceNeg, Int.reduceLE, Int.reduceLT, Int.reduceToNat, ↓reduceIte, List.length_cons, List.length_nil, xlc0, xlc1, ite_10, i10, i01, i0_2, i0_3, i0_4, i0_6, i0_7, i0_8, i0_49, i0_10, or_true, true_or, or_false, false_or, not_false_eq_true, not_true_eq_false, xnt, xI_g, eq_self, xI_2, xJ_1, false_and, and_false, obT_t, obS_t, ob6_t, ob2_t, ob0_t, kT1_t, kT2_t, kT3_t, kT4_t, lT1, lT2, rT6, rT7, rT8, rT9, rT1i, rT2i, rS2, kSe_t, lSe, r0_0, r0_1, r0_2, r0_3, r0_4, r0_5, r0_6, r0_7, r0_8, r0_9, r1_i, r2_4, r2_5, r4_4, a1_t, a3_t, a5_t, a6_t, a7_t, a8_t, l1, l3, l5, l6, l7, l8, T1, T2, T3, T4, nI8, nI6, nI160, nI20, nI401, nI49, ob5_t, ob1_t, vp_tn, tn_def, lgc, dX4_hasRoomForWalker_0, st_aload_n, dX4_hasRoomForWalker_1, st_getfield, fl_X4_19, dX4_hasRoomForWalker_4, st_bipush, dX4_hasRoomForWalker_6, st_if_icmp, dX4_hasRoomForWalker_9, st_iconst, dX4_hasRoomForWalker_10, st_goto, dX4_hasRoomForWalker_13, dX4_hasRoomForWalker_14, st_ireturn, ofI_6, ofI_1, ofI_0, hp1]
  try simp only [hR, fX4_hasRoomForWalker_e, Option.some.injEq, Value.int.injEq, Value.long.injEq, Value.ref.injEq, and_true, true_and]
  all_goals grind
theorem rX4_hasRoomForWalker : ∀ as σ, pX4_hasRoomForWalker as σ → ∃ K as', as = .ref K :: as' ∧ xob WX K 4 := by
  rintro as σ ⟨B, rfl, hpre⟩
  exact ⟨_, _, rfl, by first | exact hpre | exact hpre.1 | exact obT hpre | exact obT hpre.1 | exact obS hpre | exact obS hpre.1 | exact obM | exact ob6 | exact ob2 | exact ob0⟩
def pX4_gaitBy (as : List Value) (σ : xS) : Prop := ∃ (B : Nat) (x : Int32), as = [.ref B, .int x] ∧ (xTw B)
def fX4_gaitBy (as : List Value) (σ : xS) : Option Value × xS := match as with
  | [.ref B, .int x] => (some (.ref (gaiK B x)), σ)
  | _ => (none, σ)
theorem pX4_gaitBy_e {B : Nat} {x : Int32} {σ : xS} : pX4_gaitBy [.ref B, .int x] σ = (xTw B) := propext ⟨fun h => by obtain ⟨B, x, e, h⟩ := h; cases e; exact h, fun h => ⟨B, x, rfl, h⟩⟩
theorem fX4_gaitBy_e {B : Nat} {x : Int32} {σ : xS} : fX4_gaitBy [.ref B, .int x] σ = (some (.ref (gaiK B x)), σ) := rfl
def calX4_gaitBy : List (Nat × xCall) := []
set_option maxHeartbeats 4000000 in
set_option maxRecDepth 100000 in
theorem mX4_gaitBy : xMet WX yX4_gaitBy cX4_gaitBy 3 (some (.object "AsTheLastHeMet$Gait")) 1 pX4_gaitBy fX4_gaitBy := by
  refine xMet_of (fld := xlk fldX4) (cal := xlk calX4_gaitBy) (ks := xlk []) (gs := xlk []) (ro := fun _ => none) 3 (by decide) WX_nd ⟨_, rfl⟩ fldX4_ok xKs_nil xGs_nil (Or.inr rfl) xcal_nil ?_ ?_
  · rintro av σ ⟨B, x, rfl, hpre⟩
    exact Nat.le_of_ble_eq_true rfl
  rintro av σ ⟨B, x, rfl, hp1⟩ Rt hR
  refine xgo0 23 ?_
  simp (config := {maxSteps := 2000000}) only [xwp_0, xwp_1, xws_s, xdd_o, xld_0, xld_s, xs1_0, xs1_1, xs1_s, xs2_0, xs2_1, xs2_s, xlg_n, xlg_i, xlg_r, xlg_z, xlg_l, xf4_0, xf4_1, xf4_2, xf4_3, xgo_e, xcmp_eq, xcmp_ne, xcmp_lt, xcmp_ge, xcmp_gt, xcmp_le, xfg_0, xfg_1, xfg_2, xfg_3, xfg_4, xpop_0, xpop_s, xsw_n, xsw_c, xtb_n, xtb_c, xenp_n, xenp_i, xenp_r, xenp_z, xenp_l, xrep_0, xrep_s, Nat.reduceSub, true_and, and_true, cat_i, cat_r, Nat.reduceAdd, Nat.reduceLT, Nat.reduceLeDiff, Nat.reduceEqDiff, xnc, Int.reduceAdd, Int.reduceSub, Int.reduceNeg, Int.reduceLE, Int.reduceLT, Int.reduceToNat, ↓reduceIte, List.length_cons, List.length_nil, xlc0, xlc1, ite_10, i10, i01, i0_2, i0_3, i0_4, i0_6, i0_7, i0_8, i0_49, i0_10, or_true, true_or, or_false, false_or, not_false_eq_true, not_true_eq_false, xnt, xI_g, eq_self, xI_2, xJ_1, false_and, and_false, obT_t, obS_t, ob6_t, ob2_t, ob0_t, kT1_t, kT2_t, kT3_t, kT4_t, lT1, lT2, rT6, rT7, rT8, rT9, rT1i, rT2i, rS2, kSe_t, lSe, r0_0, r0_1, r0_2, r0_3, r0_4, r0_5, r0_6, r0_7, r0_8, r0_9, r1_i, r2_4, r2_5, r4_4, a1_t, a3_t, a5_t, a6_t, a7_t, a8_t, l1, l3, l5, l6, l7, l8, T1, T2, T3, T4, nI8, nI6, nI160, nI20, nI401, nI49, ob5_t, ob1_t, vp_tn, tn_def, lgc, dX4_gaitBy_0, st_iload_n, dX4_gaitBy_1, st_ifCond, dX4_gaitBy_4, dX4_gaitBy_5, st_aload_n, dX4_gaitBy_6, st_getfield, fl_X4_33, dX4_gaitBy_9, st_arraylength, dX4_gaitBy_10, st_if_icmp, dX4_gaitBy_13, dX4_gaitBy_14, dX4_gaitBy_17, dX4_gaitBy_18, st_aaload, dX4_gaitBy_19, st_goto, dX4_gaitBy_22, st_aconst_null, dX4_gaitBy_23, st_astore_n, dX4_gaitBy_24, dX4_gaitBy_25, st_ifnonnull, dX4_gaitBy_28, dX4_gaitBy_29, fl_X4_44, dX4_gaitBy_32, dX4_gaitBy_35, dX4_gaitBy_36, st_areturn, hp1]
  simp only [hR, fX4_gaitBy_e, Option.some.injEq, Value.ref.injEq, and_true, whoK, gaiK]
  have e8 : ∀ y : Int32, 0 ≤ y → (tn y < 8 ↔ y < 8) := fun y h0 => by
    have := nI_ltI (a := tn y) (b := 8) (by have := tn_lt31 y; omega) (by omega)
    rw [tn_of h0] at this
    exact this.symm
  have e6 : ∀ y : Int32, 0 ≤ y → (tn y < 6 ↔ y < 6) := fun y h0 => by
    have := nI_ltI (a := tn y) (b := 6) (by have := tn_lt31 y; omega) (by omega)
    rw [tn_of h0] at this
    exact this.symm
  have e8 := e8 x
  have e6 := e6 x
  all_goals grind
theorem rX4_gaitBy : ∀ as σ, pX4_gaitBy as σ → ∃ K as', as = .ref K :: as' ∧ xob WX K 4 := by
  rintro as σ ⟨B, x, rfl, hpre⟩
  exact ⟨_, _, rfl, by first | exact hpre | exact hpre.1 | exact obT hpre | exact obT hpre.1 | exact obS hpre | exact obS hpre.1 | exact obM | exact ob6 | exact ob2 | exact ob0⟩
def pX4_who (as : List Value) (σ : xS) : Prop := ∃ (B : Nat) (x : Int32), as = [.ref B, .int x] ∧ (xTw B)
def fX4_who (as : List Value) (σ : xS) : Option Value × xS := match as with
  | [.ref B, .int x] => (some (.ref (whoK B x)), σ)
  | _ => (none, σ)
theorem pX4_who_e {B : Nat} {x : Int32} {σ : xS} : pX4_who [.ref B, .int x] σ = (xTw B) := propext ⟨fun h => by obtain ⟨B, x, e, h⟩ := h; cases e; exact h, fun h => ⟨B, x, rfl, h⟩⟩
theorem fX4_who_e {B : Nat} {x : Int32} {σ : xS} : fX4_who [.ref B, .int x] σ = (some (.ref (whoK B x)), σ) := rfl
def calX4_who : List (Nat × xCall) := []
set_option maxHeartbeats 4000000 in
set_option maxRecDepth 100000 in
theorem mX4_who : xMet WX yX4_who cX4_who 3 (some (.object "AsTheLastHeMet$Walker")) 1 pX4_who fX4_who := by
  refine xMet_of (fld := xlk fldX4) (cal := xlk calX4_who) (ks := xlk []) (gs := xlk []) (ro := fun _ => none) 3 (by decide) WX_nd ⟨_, rfl⟩ fldX4_ok xKs_nil xGs_nil (Or.inr rfl) xcal_nil ?_ ?_
  · rintro av σ ⟨B, x, rfl, hpre⟩
    exact Nat.le_of_ble_eq_true rfl
  rintro av σ ⟨B, x, rfl, hp1⟩ Rt hR
  refine xgo0 23 ?_
  simp (config := {maxSteps := 2000000}) only [xwp_0, xwp_1, xws_s, xdd_o, xld_0, xld_s, xs1_0, xs1_1, xs1_s, xs2_0, xs2_1, xs2_s, xlg_n, xlg_i, xlg_r, xlg_z, xlg_l, xf4_0, xf4_1, xf4_2, xf4_3, xgo_e, xcmp_eq, xcmp_ne, xcmp_lt, xcmp_ge, xcmp_gt, xcmp_le, xfg_0, xfg_1, xfg_2, xfg_3, xfg_4, xpop_0, xpop_s, xsw_n, xsw_c, xtb_n, xtb_c, xenp_n, xenp_i, xenp_r, xenp_z, xenp_l, xrep_0, xrep_s, Nat.reduceSub, true_and, and_true, cat_i, cat_r, Nat.reduceAdd, Nat.reduceLT, Nat.reduceLeDiff, Nat.reduceEqDiff, xnc, Int.reduceAdd, Int.reduceSub, Int.reduceNeg, Int.reduceLE, Int.reduceLT, Int.reduceToNat, ↓reduceIte, List.length_cons, List.length_nil, xlc0, xlc1, ite_10, i10, i01, i0_2, i0_3, i0_4, i0_6, i0_7, i0_8, i0_49, i0_10, or_true, true_or, or_false, false_or, not_false_eq_true, not_true_eq_false, xnt, xI_g, eq_self, xI_2, xJ_1, false_and, and_false, obT_t, obS_t, ob6_t, ob2_t, ob0_t, kT1_t, kT2_t, kT3_t, kT4_t, lT1, lT2, rT6, rT7, rT8, rT9, rT1i, rT2i, rS2, kSe_t, lSe, r0_0, r0_1, r0_2, r0_3, r0_4, r0_5, r0_6, r0_7, r0_8, r0_9, r1_i, r2_4, r2_5, r4_4, a1_t, a3_t, a5_t, a6_t, a7_t, a8_t, l1, l3, l5, l6, l7, l8, T1, T2, T3, T4, nI8, nI6, nI160, nI20, nI401, nI49, ob5_t, ob1_t, vp_tn, tn_def, lgc, dX4_who_0, st_iload_n, dX4_who_1, st_ifCond, dX4_who_4, dX4_who_5, st_aload_n, dX4_who_6, st_getfield, fl_X4_39, dX4_who_9, st_arraylength, dX4_who_10, st_if_icmp, dX4_who_13, dX4_who_14, dX4_who_17, dX4_who_18, st_aaload, dX4_who_19, st_goto, dX4_who_22, st_aconst_null, dX4_who_23, st_astore_n, dX4_who_24, dX4_who_25, st_ifnonnull, dX4_who_28, dX4_who_29, fl_X4_49, dX4_who_32, dX4_who_35, dX4_who_36, st_areturn, hp1]
  simp only [hR, fX4_who_e, Option.some.injEq, Value.ref.injEq, and_true, whoK, gaiK]
  have e8 : ∀ y : Int32, 0 ≤ y → (tn y < 8 ↔ y < 8) := fun y h0 => by
    have := nI_ltI (a := tn y) (b := 8) (by have := tn_lt31 y; omega) (by omega)
    rw [tn_of h0] at this
    exact this.symm
  have e6 : ∀ y : Int32, 0 ≤ y → (tn y < 6 ↔ y < 6) := fun y h0 => by
    have := nI_ltI (a := tn y) (b := 6) (by have := tn_lt31 y; omega) (by omega)
    rw [tn_of h0] at this
    exact this.symm
  have e8 := e8 x
  have e6 := e6 x
  all_goals grind
theorem rX4_who : ∀ as σ, pX4_who as σ → ∃ K as', as = .ref K :: as' ∧ xob WX K 4 := by
  rintro as σ ⟨B, x, rfl, hpre⟩
  exact ⟨_, _, rfl, by first | exact hpre | exact hpre.1 | exact obT hpre | exact obT hpre.1 | exact obS hpre | exact obS hpre.1 | exact obM | exact ob6 | exact ob2 | exact ob0⟩
def pX4_addGait (as : List Value) (σ : xS) : Prop := ∃ (B : Nat) (n : Int32) (a : Int32) (s : Int32), as = [.ref B, .int n, .int a, .int s] ∧ ((xTw B) ∧ (0 ≤ σ.1 B 1) ∧ (σ.1 B 1 < 8))
def fX4_addGait (as : List Value) (σ : xS) : Option Value × xS := match as with
  | [.ref B, .int n, .int a, .int s] => (some (.int (σ.1 B 1)), xI (xI (xI (xI σ (B + 10 + tn (σ.1 B 1)) 0 n) (B + 10 + tn (σ.1 B 1)) 1 a) (B + 10 + tn (σ.1 B 1)) 2 s) B 1 (σ.1 B 1 + 1))
  | _ => (none, σ)
theorem pX4_addGait_e {B : Nat} {n : Int32} {a : Int32} {s : Int32} {σ : xS} : pX4_addGait [.ref B, .int n, .int a, .int s] σ = ((xTw B) ∧ (0 ≤ σ.1 B 1) ∧ (σ.1 B 1 < 8)) := propext ⟨fun h => by obtain ⟨B, n, a, s, e, h⟩ := h; cases e; exact h, fun h => ⟨B, n, a, s, rfl, h⟩⟩
theorem fX4_addGait_e {B : Nat} {n : Int32} {a : Int32} {s : Int32} {σ : xS} : fX4_addGait [.ref B, .int n, .int a, .int s] σ = (some (.int (σ.1 B 1)), xI (xI (xI (xI σ (B + 10 + tn (σ.1 B 1)) 0 n) (B + 10 + tn (σ.1 B 1)) 1 a) (B + 10 + tn (σ.1 B 1)) 2 s) B 1 (σ.1 B 1 + 1)) := rfl
def calX4_addGait : List (Nat × xCall) := [(53, (false, 2, pX4_gaitBy, fX4_gaitBy))]
theorem c_X4_addGait_53 : xlk calX4_addGait 53 = some (false, 2, pX4_gaitBy, fX4_gaitBy) := rfl
set_option maxHeartbeats 4000000 in
set_option maxRecDepth 100000 in
theorem mX4_addGait : xMet WX yX4_addGait cX4_addGait 5 (some .int) 2 pX4_addGait fX4_addGait := by
  refine xMet_of (fld := xlk fldX4) (cal := xlk calX4_addGait) (ks := xlk []) (gs := xlk []) (ro := fun _ => none) 0 (by decide) WX_nd rfl fldX4_ok xKs_nil xGs_nil (Or.inr rfl) (xcal_cons (xCk_V mX4_gaitBy 4 (by decide) (by decide) (by decide) rfl (fun as σ h _ => rX4_gaitBy as σ h) w_X4_53 ⟨by decide, by decide, by decide +kernel⟩) xcal_nil) ?_ ?_
  · rintro av σ ⟨B, n, a, s, rfl, hpre⟩
    exact Nat.le_of_ble_eq_true rfl
  rintro av σ ⟨B, n, a, s, rfl, ⟨hp1, hp2, hp3⟩⟩ Rt hR
  refine xgo0 27 ?_
  simp (config := {maxSteps := 2000000}) only [xwp_0, xwp_1, xws_s, xdd_o, xld_0, xld_s, xs1_0, xs1_1, xs1_s, xs2_0, xs2_1, xs2_s, xlg_n, xlg_i, xlg_r, xlg_z, xlg_l, xf4_0, xf4_1, xf4_2, xf4_3, xgo_e, xcmp_eq, xcmp_ne, xcmp_lt, xcmp_ge, xcmp_gt, xcmp_le, xfg_0, xfg_1, xfg_2, xfg_3, xfg_4, xpop_0, xpop_s, xsw_n, xsw_c, xtb_n, xtb_c, xenp_n, xenp_i, xenp_r, xenp_z, xenp_l, xrep_0, xrep_s, Nat.reduceSub, true_and, and_true, cat_i, cat_r, Nat.reduceAdd, Nat.reduceLT, Nat.reduceLeDiff, Nat.reduceEqDiff, xnc, Int.reduceAdd, Int.reduceSub, Int.reduceNeg, Int.reduceLE, Int.reduceLT, Int.reduceToNat, ↓reduceIte, List.length_cons, List.length_nil, xlc0, xlc1, ite_10, i10, i01, i0_2, i0_3, i0_4, i0_6, i0_7, i0_8, i0_49, i0_10, or_true, true_or, or_false, false_or, not_false_eq_true, not_true_eq_false, xnt, xI_g, eq_self, xI_2, xJ_1, false_and, and_false, obT_t, obS_t, ob6_t, ob2_t, ob0_t, kT1_t, kT2_t, kT3_t, kT4_t, lT1, lT2, rT6, rT7, rT8, rT9, rT1i, rT2i, rS2, kSe_t, lSe, r0_0, r0_1, r0_2, r0_3, r0_4, r0_5, r0_6, r0_7, r0_8, r0_9, r1_i, r2_4, r2_5, r4_4, a1_t, a3_t, a5_t, a6_t, a7_t, a8_t, l1, l3, l5, l6, l7, l8, T1, T2, T3, T4, nI8, nI6, nI160, nI20, nI401, nI49, ob5_t, ob1_t, vp_tn, tn_def, lgc, dX4_addGait_0, st_aload_n, dX4_addGait_1, dX4_addGait_2, st_getfield, fl_X4_15, dX4_addGait_5, st_invokevirtual, dX4_addGait_8, st_astore, dX4_addGait_10, st_aload, dX4_addGait_12, st_iload_n, dX4_addGait_13, st_putfield, fl_X4_72, dX4_addGait_16, dX4_addGait_18, dX4_addGait_19, fl_X4_75, dX4_addGait_22, dX4_addGait_24, dX4_addGait_25, fl_X4_78, dX4_addGait_28, dX4_addGait_29, st_dup, dX4_addGait_30, dX4_addGait_33, st_iconst, dX4_addGait_34, st_iadd, dX4_addGait_35, dX4_addGait_38, dX4_addGait_39, dX4_addGait_42, dX4_addGait_43, st_isub, dX4_addGait_44, st_ireturn, c_X4_addGait_53, pX4_gaitBy_e, fX4_gaitBy_e, Option.toList_some, Option.toList_none, List.cons_append, List.nil_append, ofI_1, hp1, hp2, hp3]
  have e : gaiK B (σ.1 B 1) = B + 10 + tn (σ.1 B 1) := by rw [gaiK, if_pos ⟨hp2, hp3⟩]
  have e2 : (B = B + 10 + tn (σ.1 B 1)) = False := eq_false (by omega)
  simp only [e, e2, false_and, if_false, hR, fX4_addGait_e, Option.some.injEq, Value.int.injEq, and_true, true_and, Int32.add_sub_cancel]
theorem rX4_addGait : ∀ as σ, pX4_addGait as σ → ∃ K as', as = .ref K :: as' ∧ xob WX K 4 := by
  rintro as σ ⟨B, n, a, s, rfl, hpre⟩
  exact ⟨_, _, rfl, by first | exact hpre | exact hpre.1 | exact obT hpre | exact obT hpre.1 | exact obS hpre | exact obS hpre.1 | exact obM | exact ob6 | exact ob2 | exact ob0⟩
def addW (σ : xS) (B W : Nat) (k p d g a : Int32) : xS := xI (xI (xI (xI (xI (xI (xI (xI σ W 0 k) W 1 p) W 2 d) W 3 g) W 4 0) W 5 0) W 6 a) B 2 (σ.1 B 2 + 1)
def pX4_addWalker (as : List Value) (σ : xS) : Prop := ∃ (B : Nat) (k : Int32) (p : Int32) (d : Int32) (g : Int32) (a : Int32), as = [.ref B, .int k, .int p, .int d, .int g, .int a] ∧ ((xTw B) ∧ (0 ≤ σ.1 B 2) ∧ (σ.1 B 2 < 6))
def fX4_addWalker (as : List Value) (σ : xS) : Option Value × xS := match as with
  | [.ref B, .int k, .int p, .int d, .int g, .int a] => (some (.int (σ.1 B 2)), addW σ B (B + 20 + tn (σ.1 B 2)) k p d g a)
  | _ => (none, σ)
theorem pX4_addWalker_e {B : Nat} {k : Int32} {p : Int32} {d : Int32} {g : Int32} {a : Int32} {σ : xS} : pX4_addWalker [.ref B, .int k, .int p, .int d, .int g, .int a] σ = ((xTw B) ∧ (0 ≤ σ.1 B 2) ∧ (σ.1 B 2 < 6)) := propext ⟨fun h => by obtain ⟨B, k, p, d, g, a, e, h⟩ := h; cases e; exact h, fun h => ⟨B, k, p, d, g, a, rfl, h⟩⟩
theorem fX4_addWalker_e {B : Nat} {k : Int32} {p : Int32} {d : Int32} {g : Int32} {a : Int32} {σ : xS} : fX4_addWalker [.ref B, .int k, .int p, .int d, .int g, .int a] σ = (some (.int (σ.1 B 2)), addW σ B (B + 20 + tn (σ.1 B 2)) k p d g a) := rfl
def calX4_addWalker : List (Nat × xCall) := [(65, (false, 2, pX4_who, fX4_who))]
theorem c_X4_addWalker_65 : xlk calX4_addWalker 65 = some (false, 2, pX4_who, fX4_who) := rfl
set_option maxHeartbeats 4000000 in
set_option maxRecDepth 100000 in
theorem mX4_addWalker : xMet WX yX4_addWalker cX4_addWalker 7 (some .int) 2 pX4_addWalker fX4_addWalker := by
  refine xMet_of (fld := xlk fldX4) (cal := xlk calX4_addWalker) (ks := xlk []) (gs := xlk []) (ro := fun _ => none) 0 (by decide) WX_nd rfl fldX4_ok xKs_nil xGs_nil (Or.inr rfl) (xcal_cons (xCk_V mX4_who 4 (by decide) (by decide) (by decide) rfl (fun as σ h _ => rX4_who as σ h) w_X4_65 ⟨by decide, by decide, by decide +kernel⟩) xcal_nil) ?_ ?_
  · rintro av σ ⟨B, k, p, d, g, a, rfl, hpre⟩
    exact Nat.le_of_ble_eq_true rfl
  rintro av σ ⟨B, k, p, d, g, a, rfl, ⟨hp1, hp2, hp3⟩⟩ Rt hR
  refine xgo0 39 ?_
  simp (config := {maxSteps := 2000000}) only [xwp_0, xwp_1, xws_s, xdd_o, xld_0, xld_s, xs1_0, xs1_1, xs1_s, xs2_0, xs2_1, xs2_s, xlg_n, xlg_i, xlg_r, xlg_z, xlg_l, xf4_0, xf4_1, xf4_2, xf4_3, xgo_e, xcmp_eq, xcmp_ne, xcmp_lt, xcmp_ge, xcmp_gt, xcmp_le, xfg_0, xfg_1, xfg_2, xfg_3, xfg_4, xpop_0, xpop_s, xsw_n, xsw_c, xtb_n, xtb_c, xenp_n, xenp_i, xenp_r, xenp_z, xenp_l, xrep_0, xrep_s, Nat.reduceSub, true_and, and_true, cat_i, cat_r, Nat.reduceAdd, Nat.reduceLT, Nat.reduceLeDiff, Nat.reduceEqDiff, xnc, Int.reduceAdd, Int.reduceSub, Int.reduceNeg, Int.reduceLE, Int.reduceLT, Int.reduceToNat, ↓reduceIte, List.length_cons, List.length_nil, xlc0, xlc1, ite_10, i10, i01, i0_2, i0_3, i0_4, i0_6, i0_7, i0_8, i0_49, i0_10, or_true, true_or, or_false, false_or, not_false_eq_true, not_true_eq_false, xnt, xI_g, eq_self, xI_2, xJ_1, false_and, and_false, obT_t, obS_t, ob6_t, ob2_t, ob0_t, kT1_t, kT2_t, kT3_t, kT4_t, lT1, lT2, rT6, rT7, rT8, rT9, rT1i, rT2i, rS2, kSe_t, lSe, r0_0, r0_1, r0_2, r0_3, r0_4, r0_5, r0_6, r0_7, r0_8, r0_9, r1_i, r2_4, r2_5, r4_4, a1_t, a3_t, a5_t, a6_t, a7_t, a8_t, l1, l3, l5, l6, l7, l8, T1, T2, T3, T4, nI8, nI6, nI160, nI20, nI401, nI49, ob5_t, ob1_t, vp_tn, tn_def, lgc, dX4_addWalker_0, st_aload_n, dX4_addWalker_1, dX4_addWalker_2, st_getfield, fl_X4_19, dX4_addWalker_5, st_invokevirtual, dX4_addWalker_8, st_astore, dX4_addWalker_10, st_aload, dX4_addWalker_12, st_iload_n, dX4_addWalker_13, st_putfield, fl_X4_81, dX4_addWalker_16, dX4_addWalker_18, dX4_addWalker_19, fl_X4_84, dX4_addWalker_22, dX4_addWalker_24, dX4_addWalker_25, fl_X4_87, dX4_addWalker_28, dX4_addWalker_30, st_iload, dX4_addWalker_32, fl_X4_90, dX4_addWalker_35, dX4_addWalker_37, st_iconst, dX4_addWalker_38, fl_X4_93, dX4_addWalker_41, dX4_addWalker_43, dX4_addWalker_44, fl_X4_96, dX4_addWalker_47, dX4_addWalker_49, dX4_addWalker_51, fl_X4_99, dX4_addWalker_54, dX4_addWalker_55, st_dup, dX4_addWalker_56, dX4_addWalker_59, dX4_addWalker_60, st_iadd, dX4_addWalker_61, dX4_addWalker_64, dX4_addWalker_65, dX4_addWalker_68, dX4_addWalker_69, st_isub, dX4_addWalker_70, st_ireturn, c_X4_addWalker_65, pX4_who_e, fX4_who_e, Option.toList_some, Option.toList_none, List.cons_append, List.nil_append, ofI_0, ofI_1, hp1, hp2, hp3]
  have e : whoK B (σ.1 B 2) = B + 20 + tn (σ.1 B 2) := by rw [whoK, if_pos ⟨hp2, hp3⟩]
  have e2 : (B = B + 20 + tn (σ.1 B 2)) = False := eq_false (by omega)
  simp only [e, e2, false_and, if_false, hR, fX4_addWalker_e, addW, Option.some.injEq, Value.int.injEq, and_true, true_and, Int32.add_sub_cancel]
theorem rX4_addWalker : ∀ as σ, pX4_addWalker as σ → ∃ K as', as = .ref K :: as' ∧ xob WX K 4 := by
  rintro as σ ⟨B, k, p, d, g, a, rfl, hpre⟩
  exact ⟨_, _, rfl, by first | exact hpre | exact hpre.1 | exact obT hpre | exact obT hpre.1 | exact obS hpre | exact obS hpre.1 | exact obM | exact ob6 | exact ob2 | exact ob0⟩
def pX4_beginOtherwise (as : List Value) (σ : xS) : Prop := ∃ (B : Nat) (x : Int32) (g : Int32), as = [.ref B, .int x, .int g] ∧ (xTw B)
def fX4_beginOtherwise (as : List Value) (σ : xS) : Option Value × xS := match as with
  | [.ref B, .int x, .int g] => (none, xI (xI σ (whoK B x) 3 g) (whoK B x) 4 (if 0 < σ.1 (gaiK B g) 0 then xrem (σ.1 (whoK B x) 4) (σ.1 (gaiK B g) 0) else 0))
  | _ => (none, σ)
theorem pX4_beginOtherwise_e {B : Nat} {x : Int32} {g : Int32} {σ : xS} : pX4_beginOtherwise [.ref B, .int x, .int g] σ = (xTw B) := propext ⟨fun h => by obtain ⟨B, x, g, e, h⟩ := h; cases e; exact h, fun h => ⟨B, x, g, rfl, h⟩⟩
theorem fX4_beginOtherwise_e {B : Nat} {x : Int32} {g : Int32} {σ : xS} : fX4_beginOtherwise [.ref B, .int x, .int g] σ = (none, xI (xI σ (whoK B x) 3 g) (whoK B x) 4 (if 0 < σ.1 (gaiK B g) 0 then xrem (σ.1 (whoK B x) 4) (σ.1 (gaiK B g) 0) else 0)) := rfl
def calX4_beginOtherwise : List (Nat × xCall) := [(65, (false, 2, pX4_who, fX4_who)), (53, (false, 2, pX4_gaitBy, fX4_gaitBy))]
theorem c_X4_beginOtherwise_65 : xlk calX4_beginOtherwise 65 = some (false, 2, pX4_who, fX4_who) := rfl
theorem c_X4_beginOtherwise_53 : xlk calX4_beginOtherwise 53 = some (false, 2, pX4_gaitBy, fX4_gaitBy) := rfl
set_option maxHeartbeats 4000000 in
set_option maxRecDepth 100000 in
theorem mX4_beginOtherwise : xMet WX yX4_beginOtherwise cX4_beginOtherwise 5 none 2 pX4_beginOtherwise fX4_beginOtherwise := by
  refine xMet_of (fld := xlk fldX4) (cal := xlk calX4_beginOtherwise) (ks := xlk []) (gs := xlk []) (ro := fun _ => none) 4 (by decide) WX_nd rfl fldX4_ok xKs_nil xGs_nil (Or.inr rfl) (xcal_cons (xCk_V mX4_who 4 (by decide) (by decide) (by decide) rfl (fun as σ h _ => rX4_who as σ h) w_X4_65 ⟨by decide, by decide, by decide +kernel⟩) (xcal_cons (xCk_V mX4_gaitBy 4 (by decide) (by decide) (by decide) rfl (fun as σ h _ => rX4_gaitBy as σ h) w_X4_53 ⟨by decide, by decide, by decide +kernel⟩) xcal_nil)) ?_ ?_
  · rintro av σ ⟨B, x, g, rfl, hpre⟩
    exact Nat.le_of_ble_eq_true rfl
  rintro av σ ⟨B, x, g, rfl, hp1⟩ Rt hR
  refine xgo0 25 ?_
  simp (config := {maxSteps := 2000000}) only [xwp_0, xwp_1, xws_s, xdd_o, xld_0, xld_s, xs1_0, xs1_1, xs1_s, xs2_0, xs2_1, xs2_s, xlg_n, xlg_i, xlg_r, xlg_z, xlg_l, xf4_0, xf4_1, xf4_2, xf4_3, xgo_e, xcmp_eq, xcmp_ne, xcmp_lt, xcmp_ge, xcmp_gt, xcmp_le, xfg_0, xfg_1, xfg_2, xfg_3, xfg_4, xpop_0, xpop_s, xsw_n, xsw_c, xtb_n, xtb_c, xenp_n, xenp_i, xenp_r, xenp_z, xenp_l, xrep_0, xrep_s, Nat.reduceSub, true_and, and_true, cat_i, cat_r, Nat.reduceAdd, Nat.reduceLT, Nat.reduceLeDiff, Nat.reduceEqDiff, xnc, Int.reduceAdd, Int.reduceSub, Int.reduceNeg, Int.reduceLE, Int.reduceLT, Int.reduceToNat, ↓reduceIte, List.length_cons, List.length_nil, xlc0, xlc1, ite_10, i10, i01, i0_2, i0_3, i0_4, i0_6, i0_7, i0_8, i0_49, i0_10, or_true, true_or, or_false, false_or, not_false_eq_true, not_true_eq_false, xnt, xI_g, eq_self, xI_2, xJ_1, false_and, and_false, obT_t, obS_t, ob6_t, ob2_t, ob0_t, kT1_t, kT2_t, kT3_t, kT4_t, lT1, lT2, rT6, rT7, rT8, rT9, rT1i, rT2i, rS2, kSe_t, lSe, r0_0, r0_1, r0_2, r0_3, r0_4, r0_5, r0_6, r0_7, r0_8, r0_9, r1_i, r2_4, r2_5, r4_4, a1_t, a3_t, a5_t, a6_t, a7_t, a8_t, l1, l3, l5, l6, l7, l8, T1, T2, T3, T4, nI8, nI6, nI160, nI20, nI401, nI49, ob5_t, ob1_t, vp_tn, tn_def, lgc, dX4_beginOtherwise_0, st_aload_n, dX4_beginOtherwise_1, st_iload_n, dX4_beginOtherwise_2, st_invokevirtual, dX4_beginOtherwise_5, st_astore_n, dX4_beginOtherwise_6, dX4_beginOtherwise_7, dX4_beginOtherwise_8, dX4_beginOtherwise_11, st_getfield, fl_X4_72, dX4_beginOtherwise_14, st_istore, dX4_beginOtherwise_16, dX4_beginOtherwise_17, dX4_beginOtherwise_18, st_putfield, fl_X4_90, dX4_beginOtherwise_21, dX4_beginOtherwise_22, st_iload, dX4_beginOtherwise_24, st_ifCond, dX4_beginOtherwise_27, dX4_beginOtherwise_28, fl_X4_93, dX4_beginOtherwise_31, dX4_beginOtherwise_33, st_irem, dX4_beginOtherwise_34, st_goto, dX4_beginOtherwise_37, st_iconst, dX4_beginOtherwise_38, dX4_beginOtherwise_41, st_return_, c_X4_beginOtherwise_65, pX4_who_e, fX4_who_e, Option.toList_some, Option.toList_none, List.cons_append, List.nil_append, c_X4_beginOtherwise_53, pX4_gaitBy_e, fX4_gaitBy_e, ofI_0, hp1]
  simp only [hR, fX4_beginOtherwise_e]
  all_goals grind
theorem rX4_beginOtherwise : ∀ as σ, pX4_beginOtherwise as σ → ∃ K as', as = .ref K :: as' ∧ xob WX K 4 := by
  rintro as σ ⟨B, x, g, rfl, hpre⟩
  exact ⟨_, _, rfl, by first | exact hpre | exact hpre.1 | exact obT hpre | exact obT hpre.1 | exact obS hpre | exact obS hpre.1 | exact obM | exact ob6 | exact ob2 | exact ob0⟩
def pX4_isWalled (as : List Value) (σ : xS) : Prop := ∃ (B : Nat) (p : Int32), as = [.ref B, .int p] ∧ (xTw B)
def fX4_isWalled (as : List Value) (σ : xS) : Option Value × xS := match as with
  | [.ref B, .int p] => (some (.int (if xlushr (σ.2 B 0) p &&& 1 = 1 then 1 else 0)), σ)
  | _ => (none, σ)
theorem pX4_isWalled_e {B : Nat} {p : Int32} {σ : xS} : pX4_isWalled [.ref B, .int p] σ = (xTw B) := propext ⟨fun h => by obtain ⟨B, p, e, h⟩ := h; cases e; exact h, fun h => ⟨B, p, rfl, h⟩⟩
theorem fX4_isWalled_e {B : Nat} {p : Int32} {σ : xS} : fX4_isWalled [.ref B, .int p] σ = (some (.int (if xlushr (σ.2 B 0) p &&& 1 = 1 then 1 else 0)), σ) := rfl
def calX4_isWalled : List (Nat × xCall) := []
set_option maxHeartbeats 4000000 in
set_option maxRecDepth 100000 in
theorem mX4_isWalled : xMet WX yX4_isWalled cX4_isWalled 2 (some .boolean) 1 pX4_isWalled fX4_isWalled := by
  refine xMet_of (fld := xlk fldX4) (cal := xlk calX4_isWalled) (ks := xlk []) (gs := xlk []) (ro := fun _ => none) 1 (by decide) WX_nd rfl fldX4_ok xKs_nil xGs_nil (Or.inr rfl) xcal_nil ?_ ?_
  · rintro av σ ⟨B, p, rfl, hpre⟩
    exact Nat.le_of_ble_eq_true rfl
  rintro av σ ⟨B, p, rfl, hp1⟩ Rt hR
  refine xgo0 15 ?_
  simp (config := {maxSteps := 2000000}) only [xwp_0, xwp_1, xws_s, xdd_o, xld_0, xld_s, xs1_0, xs1_1, xs1_s, xs2_0, xs2_1, xs2_s, xlg_n, xlg_i, xlg_r, xlg_z, xlg_l, xf4_0, xf4_1, xf4_2, xf4_3, xgo_e, xcmp_eq, xcmp_ne, xcmp_lt, xcmp_ge, xcmp_gt, xcmp_le, xfg_0, xfg_1, xfg_2, xfg_3, xfg_4, xpop_0, xpop_s, xsw_n, xsw_c, xtb_n, xtb_c, xenp_n, xenp_i, xenp_r, xenp_z, xenp_l, xrep_0, xrep_s, Nat.reduceSub, true_and, and_true, cat_i, cat_r, Nat.reduceAdd, Nat.reduceLT, Nat.reduceLeDiff, Nat.reduceEqDiff, xnc, Int.reduceAdd, Int.reduceSub, Int.reduceNeg, Int.reduceLE, Int.reduceLT, Int.reduceToNat, ↓reduceIte, List.length_cons, List.length_nil, xlc0, xlc1, ite_10, i10, i01, i0_2, i0_3, i0_4, i0_6, i0_7, i0_8, i0_49, i0_10, or_true, true_or, or_false, false_or, not_false_eq_true, not_true_eq_false, xnt, xI_g, eq_self, xI_2, xJ_1, false_and, and_false, obT_t, obS_t, ob6_t, ob2_t, ob0_t, kT1_t, kT2_t, kT3_t, kT4_t, lT1, lT2, rT6, rT7, rT8, rT9, rT1i, rT2i, rS2, kSe_t, lSe, r0_0, r0_1, r0_2, r0_3, r0_4, r0_5, r0_6, r0_7, r0_8, r0_9, r1_i, r2_4, r2_5, r4_4, a1_t, a3_t, a5_t, a6_t, a7_t, a8_t, l1, l3, l5, l6, l7, l8, T1, T2, T3, T4, nI8, nI6, nI160, nI20, nI401, nI49, ob5_t, ob1_t, vp_tn, tn_def, lgc, dX4_isWalled_0, st_aload_n, dX4_isWalled_1, st_getfield, fl_X4_9, dX4_isWalled_4, st_iload_n, dX4_isWalled_5, st_lushr, dX4_isWalled_6, st_lconst, dX4_isWalled_7, st_land, dX4_isWalled_8, dX4_isWalled_9, st_lcmp, dX4_isWalled_10, st_ifCond, dX4_isWalled_13, st_iconst, dX4_isWalled_14, st_goto, dX4_isWalled_17, dX4_isWalled_18, st_ireturn, ofI_1, ofI_0, hp1]
  try simp only [hR, fX4_isWalled_e, Option.some.injEq, Value.int.injEq, Value.long.injEq, Value.ref.injEq, and_true, true_and]
  all_goals grind
theorem rX4_isWalled : ∀ as σ, pX4_isWalled as σ → ∃ K as', as = .ref K :: as' ∧ xob WX K 4 := by
  rintro as σ ⟨B, p, rfl, hpre⟩
  exact ⟨_, _, rfl, by first | exact hpre | exact hpre.1 | exact obT hpre | exact obT hpre.1 | exact obS hpre | exact obS hpre.1 | exact obM | exact ob6 | exact ob2 | exact ob0⟩
def pX4_putWall (as : List Value) (σ : xS) : Prop := ∃ (B : Nat) (p : Int32) (b : Int32), as = [.ref B, .int p, .int b] ∧ (xTw B)
def fX4_putWall (as : List Value) (σ : xS) : Option Value × xS := match as with
  | [.ref B, .int p, .int b] => (none, xJ σ B 0 (xwp_put (σ.2 B 0) p b))
  | _ => (none, σ)
theorem pX4_putWall_e {B : Nat} {p : Int32} {b : Int32} {σ : xS} : pX4_putWall [.ref B, .int p, .int b] σ = (xTw B) := propext ⟨fun h => by obtain ⟨B, p, b, e, h⟩ := h; cases e; exact h, fun h => ⟨B, p, b, rfl, h⟩⟩
theorem fX4_putWall_e {B : Nat} {p : Int32} {b : Int32} {σ : xS} : fX4_putWall [.ref B, .int p, .int b] σ = (none, xJ σ B 0 (xwp_put (σ.2 B 0) p b)) := rfl
def calX4_putWall : List (Nat × xCall) := []
set_option maxHeartbeats 4000000 in
set_option maxRecDepth 100000 in
theorem mX4_putWall : xMet WX yX4_putWall cX4_putWall 5 none 1 pX4_putWall fX4_putWall := by
  refine xMet_of (fld := xlk fldX4) (cal := xlk calX4_putWall) (ks := xlk ksX4) (gs := xlk []) (ro := fun _ => none) 4 (by decide) WX_nd rfl fldX4_ok ksX4_ok xGs_nil (Or.inr rfl) xcal_nil ?_ ?_
  · rintro av σ ⟨B, p, b, rfl, hpre⟩
    exact Nat.le_of_ble_eq_true rfl
  rintro av σ ⟨B, p, b, rfl, hp1⟩ Rt hR
  refine xgo0 22 ?_
  simp (config := {maxSteps := 2000000}) only [xwp_0, xwp_1, xws_s, xdd_o, xld_0, xld_s, xs1_0, xs1_1, xs1_s, xs2_0, xs2_1, xs2_s, xlg_n, xlg_i, xlg_r, xlg_z, xlg_l, xf4_0, xf4_1, xf4_2, xf4_3, xgo_e, xcmp_eq, xcmp_ne, xcmp_lt, xcmp_ge, xcmp_gt, xcmp_le, xfg_0, xfg_1, xfg_2, xfg_3, xfg_4, xpop_0, xpop_s, xsw_n, xsw_c, xtb_n, xtb_c, xenp_n, xenp_i, xenp_r, xenp_z, xenp_l, xrep_0, xrep_s, Nat.reduceSub, true_and, and_true, cat_i, cat_r, Nat.reduceAdd, Nat.reduceLT, Nat.reduceLeDiff, Nat.reduceEqDiff, xnc, Int.reduceAdd, Int.reduceSub, Int.reduceNeg, Int.reduceLE, Int.reduceLT, Int.reduceToNat, ↓reduceIte, List.length_cons, List.length_nil, xlc0, xlc1, ite_10, i10, i01, i0_2, i0_3, i0_4, i0_6, i0_7, i0_8, i0_49, i0_10, or_true, true_or, or_false, false_or, not_false_eq_true, not_true_eq_false, xnt, xI_g, eq_self, xI_2, xJ_1, false_and, and_false, obT_t, obS_t, ob6_t, ob2_t, ob0_t, kT1_t, kT2_t, kT3_t, kT4_t, lT1, lT2, rT6, rT7, rT8, rT9, rT1i, rT2i, rS2, kSe_t, lSe, r0_0, r0_1, r0_2, r0_3, r0_4, r0_5, r0_6, r0_7, r0_8, r0_9, r1_i, r2_4, r2_5, r4_4, a1_t, a3_t, a5_t, a6_t, a7_t, a8_t, l1, l3, l5, l6, l7, l8, T1, T2, T3, T4, nI8, nI6, nI160, nI20, nI401, nI49, ob5_t, ob1_t, vp_tn, tn_def, lgc, dX4_putWall_0, st_lconst, dX4_putWall_1, st_iload_n, dX4_putWall_2, st_lshl, dX4_putWall_3, st_lstore_n, dX4_putWall_4, st_aload_n, dX4_putWall_5, dX4_putWall_6, st_ifCond, dX4_putWall_9, dX4_putWall_10, st_getfield, fl_X4_9, dX4_putWall_13, st_lload_n, dX4_putWall_14, st_lor, dX4_putWall_15, st_goto, dX4_putWall_18, dX4_putWall_19, dX4_putWall_22, dX4_putWall_23, st_ldc2_w, ks_X4_102, dX4_putWall_26, st_lxor, dX4_putWall_27, st_land, dX4_putWall_28, st_putfield, dX4_putWall_31, st_return_, hp1]
  simp only [hR, fX4_putWall_e, xwp_put]
  all_goals grind
theorem rX4_putWall : ∀ as σ, pX4_putWall as σ → ∃ K as', as = .ref K :: as' ∧ xob WX K 4 := by
  rintro as σ ⟨B, p, b, rfl, hpre⟩
  exact ⟨_, _, rfl, by first | exact hpre | exact hpre.1 | exact obT hpre | exact obT hpre.1 | exact obS hpre | exact obS hpre.1 | exact obM | exact ob6 | exact ob2 | exact ob0⟩
def pX4_hasSomebodyAt (as : List Value) (σ : xS) : Prop := ∃ (B : Nat) (p : Int32), as = [.ref B, .int p] ∧ ((xTw B) ∧ (σ.1 B 2 ≤ 6))
def fX4_hasSomebodyAt (as : List Value) (σ : xS) : Option Value × xS := match as with
  | [.ref B, .int p] => (some (.int (if xany (fun i => decide (σ.1 (B + 20 + i) 1 = p)) (tn (σ.1 B 2)) = true then 1 else 0)), σ)
  | _ => (none, σ)
theorem pX4_hasSomebodyAt_e {B : Nat} {p : Int32} {σ : xS} : pX4_hasSomebodyAt [.ref B, .int p] σ = ((xTw B) ∧ (σ.1 B 2 ≤ 6)) := propext ⟨fun h => by obtain ⟨B, p, e, h⟩ := h; cases e; exact h, fun h => ⟨B, p, rfl, h⟩⟩
theorem fX4_hasSomebodyAt_e {B : Nat} {p : Int32} {σ : xS} : fX4_hasSomebodyAt [.ref B, .int p] σ = (some (.int (if xany (fun i => decide (σ.1 (B + 20 + i) 1 = p)) (tn (σ.1 B 2)) = true then 1 else 0)), σ) := rfl
def calX4_hasSomebodyAt : List (Nat × xCall) := [(65, (false, 2, pX4_who, fX4_who))]
theorem c_X4_hasSomebodyAt_65 : xlk calX4_hasSomebodyAt 65 = some (false, 2, pX4_who, fX4_who) := rfl
set_option maxHeartbeats 4000000 in
set_option maxRecDepth 100000 in
theorem mX4_hasSomebodyAt : xMet WX yX4_hasSomebodyAt cX4_hasSomebodyAt 3 (some .boolean) 2 pX4_hasSomebodyAt fX4_hasSomebodyAt := by
  refine xMet_of (fld := xlk fldX4) (cal := xlk calX4_hasSomebodyAt) (ks := xlk []) (gs := xlk []) (ro := fun _ => none) 1 (by decide) WX_nd rfl fldX4_ok xKs_nil xGs_nil (Or.inr rfl) (xcal_cons (xCk_V mX4_who 4 (by decide) (by decide) (by decide) rfl (fun as σ h _ => rX4_who as σ h) w_X4_65 ⟨by decide, by decide, by decide +kernel⟩) xcal_nil) ?_ ?_
  · rintro av σ ⟨B, p, rfl, hpre⟩
    exact Nat.le_of_ble_eq_true rfl
  rintro av σ ⟨B, p, rfl, ⟨hp1, hp2⟩⟩ Rt hR
  have hwk := xwk6 hp2
  refine xfor0 2 (tn (σ.1 B 2)) 60 20 (fun i => [some (.ref B), some (.int p), some (.int (nI i))]) (fun i => σ) (fun i => ∀ j, j < i → decide (σ.1 (B + 20 + j) 1 = p) = false) (fun j hj => by omega) (fun i hi hH => ?_) ?_
  · simp only [xwp_0, xwp_1, xws_s, xdd_o, xld_0, xld_s, xs1_0, xs1_1, xs1_s, xs2_0, xs2_1, xs2_s, xlg_n, xlg_i, xlg_r, xlg_z, xlg_l, xf4_0, xf4_1, xf4_2, xf4_3, xgo_e, xcmp_eq, xcmp_ne, xcmp_lt, xcmp_ge, xcmp_gt, xcmp_le, xfg_0, xfg_1, xfg_2, xfg_3, xfg_4, xpop_0, xpop_s, xsw_n, xsw_c, xtb_n, xtb_c, xenp_n, xenp_i, xenp_r, xenp_z, xenp_l, xrep_0, xrep_s, Nat.reduceSub, true_and, and_true, cat_i, cat_r, Nat.reduceAdd, Nat.reduceLT, Nat.reduceLeDiff, Nat.reduceEqDiff, xnc, Int.reduceAdd, Int.reduceSub, Int.reduceNeg, Int.reduceLE, Int.reduceLT, Int.reduceToNat, ↓reduceIte, List.length_cons, List.length_nil, xlc0, xlc1, ite_10, i10, i01, i0_2, i0_3, i0_4, i0_6, i0_7, i0_8, i0_49, i0_10, or_true, true_or, or_false, false_or, not_false_eq_true, not_true_eq_false, xnt, xI_g, eq_self, xI_2, xJ_1, false_and, and_false, obT_t, obS_t, ob6_t, ob2_t, ob0_t, kT1_t, kT2_t, kT3_t, kT4_t, lT1, lT2, rT6, rT7, rT8, rT9, rT1i, rT2i, rS2, kSe_t, lSe, r0_0, r0_1, r0_2, r0_3, r0_4, r0_5, r0_6, r0_7, r0_8, r0_9, r1_i, r2_4, r2_5, r4_4, a1_t, a3_t, a5_t, a6_t, a7_t, a8_t, l1, l3, l5, l6, l7, l8, T1, T2, T3, T4, nI8, nI6, nI160, nI20, nI401, nI49, ob5_t, ob1_t, vp_tn, tn_def, lgc, dX4_hasSomebodyAt_0, st_iconst, dX4_hasSomebodyAt_1, st_istore_n, dX4_hasSomebodyAt_2, st_iload_n, dX4_hasSomebodyAt_3, st_aload_n, dX4_hasSomebodyAt_4, st_getfield, fl_X4_19, dX4_hasSomebodyAt_7, st_if_icmp, dX4_hasSomebodyAt_10, dX4_hasSomebodyAt_11, dX4_hasSomebodyAt_12, st_invokevirtual, dX4_hasSomebodyAt_15, fl_X4_84, dX4_hasSomebodyAt_18, dX4_hasSomebodyAt_19, dX4_hasSomebodyAt_22, dX4_hasSomebodyAt_23, st_ireturn, dX4_hasSomebodyAt_24, st_iinc, dX4_hasSomebodyAt_27, st_goto, dX4_hasSomebodyAt_30, dX4_hasSomebodyAt_31, c_X4_hasSomebodyAt_65, pX4_who_e, fX4_who_e, Option.toList_some, Option.toList_none, List.cons_append, List.nil_append, ofI_0, ofI_1, hp1, hp2]
    have hc := le_nI_tn (i := i) (x := σ.1 B 2) hi
    have h6n := hwk
    refine ⟨fun h => ?_, fun h => ?_⟩
    · have hn : i = tn (σ.1 B 2) := by rw [hc] at h; omega
      rw [hR, fX4_hasSomebodyAt_e, xany_f (by rw [← hn]; exact hH)]
      exact ⟨rfl, rfl⟩
    · have hn : i < tn (σ.1 B 2) := by rw [hc] at h; omega
      have h6 : i < 6 := by omega
      simp only [whoK_n h6]
      refine ⟨fun h2 => ?_, fun h2 => ?_⟩
      all_goals first
        | (rw [hR, fX4_hasSomebodyAt_e, xany_t hn (decide_eq_true h2)]
           exact ⟨rfl, rfl⟩)
        | (exact ⟨hn, xall_s hH (decide_eq_false h2), by rw [nI_1]⟩)
  · simp only [xwp_0, xwp_1, xws_s, xdd_o, xld_0, xld_s, xs1_0, xs1_1, xs1_s, xs2_0, xs2_1, xs2_s, xlg_n, xlg_i, xlg_r, xlg_z, xlg_l, xf4_0, xf4_1, xf4_2, xf4_3, xgo_e, xcmp_eq, xcmp_ne, xcmp_lt, xcmp_ge, xcmp_gt, xcmp_le, xfg_0, xfg_1, xfg_2, xfg_3, xfg_4, xpop_0, xpop_s, xsw_n, xsw_c, xtb_n, xtb_c, xenp_n, xenp_i, xenp_r, xenp_z, xenp_l, xrep_0, xrep_s, Nat.reduceSub, true_and, and_true, cat_i, cat_r, Nat.reduceAdd, Nat.reduceLT, Nat.reduceLeDiff, Nat.reduceEqDiff, xnc, Int.reduceAdd, Int.reduceSub, Int.reduceNeg, Int.reduceLE, Int.reduceLT, Int.reduceToNat, ↓reduceIte, List.length_cons, List.length_nil, xlc0, xlc1, ite_10, i10, i01, i0_2, i0_3, i0_4, i0_6, i0_7, i0_8, i0_49, i0_10, or_true, true_or, or_false, false_or, not_false_eq_true, not_true_eq_false, xnt, xI_g, eq_self, xI_2, xJ_1, false_and, and_false, obT_t, obS_t, ob6_t, ob2_t, ob0_t, kT1_t, kT2_t, kT3_t, kT4_t, lT1, lT2, rT6, rT7, rT8, rT9, rT1i, rT2i, rS2, kSe_t, lSe, r0_0, r0_1, r0_2, r0_3, r0_4, r0_5, r0_6, r0_7, r0_8, r0_9, r1_i, r2_4, r2_5, r4_4, a1_t, a3_t, a5_t, a6_t, a7_t, a8_t, l1, l3, l5, l6, l7, l8, T1, T2, T3, T4, nI8, nI6, nI160, nI20, nI401, nI49, ob5_t, ob1_t, vp_tn, tn_def, lgc, dX4_hasSomebodyAt_0, st_iconst, dX4_hasSomebodyAt_1, st_istore_n, dX4_hasSomebodyAt_2, st_iload_n, dX4_hasSomebodyAt_3, st_aload_n, dX4_hasSomebodyAt_4, st_getfield, fl_X4_19, dX4_hasSomebodyAt_7, st_if_icmp, dX4_hasSomebodyAt_10, dX4_hasSomebodyAt_11, dX4_hasSomebodyAt_12, st_invokevirtual, dX4_hasSomebodyAt_15, fl_X4_84, dX4_hasSomebodyAt_18, dX4_hasSomebodyAt_19, dX4_hasSomebodyAt_22, dX4_hasSomebodyAt_23, st_ireturn, dX4_hasSomebodyAt_24, st_iinc, dX4_hasSomebodyAt_27, st_goto, dX4_hasSomebodyAt_30, dX4_hasSomebodyAt_31, c_X4_hasSomebodyAt_65, pX4_who_e, fX4_who_e, Option.toList_some, Option.toList_none, List.cons_append, List.nil_append, ofI_0, ofI_1, hp1, hp2]
    first | exact rfl | exact ⟨rfl, rfl⟩ | trivial
theorem rX4_hasSomebodyAt : ∀ as σ, pX4_hasSomebodyAt as σ → ∃ K as', as = .ref K :: as' ∧ xob WX K 4 := by
  rintro as σ ⟨B, p, rfl, hpre⟩
  exact ⟨_, _, rfl, by first | exact hpre | exact hpre.1 | exact obT hpre | exact obT hpre.1 | exact obS hpre | exact obS hpre.1 | exact obM | exact ob6 | exact ob2 | exact ob0⟩
def pX4_hasSomebodySo (as : List Value) (σ : xS) : Prop := ∃ (B : Nat) (p : Int32) (g : Int32), as = [.ref B, .int p, .int g] ∧ ((xTw B) ∧ (σ.1 B 2 ≤ 6))
def fX4_hasSomebodySo (as : List Value) (σ : xS) : Option Value × xS := match as with
  | [.ref B, .int p, .int g] => (some (.int (if xany (fun i => decide (σ.1 (B + 20 + i) 1 = p ∧ σ.1 (B + 20 + i) 3 = g)) (tn (σ.1 B 2)) = true then 1 else 0)), σ)
  | _ => (none, σ)
theorem pX4_hasSomebodySo_e {B : Nat} {p : Int32} {g : Int32} {σ : xS} : pX4_hasSomebodySo [.ref B, .int p, .int g] σ = ((xTw B) ∧ (σ.1 B 2 ≤ 6)) := propext ⟨fun h => by obtain ⟨B, p, g, e, h⟩ := h; cases e; exact h, fun h => ⟨B, p, g, rfl, h⟩⟩
theorem fX4_hasSomebodySo_e {B : Nat} {p : Int32} {g : Int32} {σ : xS} : fX4_hasSomebodySo [.ref B, .int p, .int g] σ = (some (.int (if xany (fun i => decide (σ.1 (B + 20 + i) 1 = p ∧ σ.1 (B + 20 + i) 3 = g)) (tn (σ.1 B 2)) = true then 1 else 0)), σ) := rfl
def calX4_hasSomebodySo : List (Nat × xCall) := [(65, (false, 2, pX4_who, fX4_who))]
theorem c_X4_hasSomebodySo_65 : xlk calX4_hasSomebodySo 65 = some (false, 2, pX4_who, fX4_who) := rfl
set_option maxHeartbeats 4000000 in
set_option maxRecDepth 100000 in
theorem mX4_hasSomebodySo : xMet WX yX4_hasSomebodySo cX4_hasSomebodySo 4 (some .boolean) 2 pX4_hasSomebodySo fX4_hasSomebodySo := by
  refine xMet_of (fld := xlk fldX4) (cal := xlk calX4_hasSomebodySo) (ks := xlk []) (gs := xlk []) (ro := fun _ => none) 1 (by decide) WX_nd rfl fldX4_ok xKs_nil xGs_nil (Or.inr rfl) (xcal_cons (xCk_V mX4_who 4 (by decide) (by decide) (by decide) rfl (fun as σ h _ => rX4_who as σ h) w_X4_65 ⟨by decide, by decide, by decide +kernel⟩) xcal_nil) ?_ ?_
  · rintro av σ ⟨B, p, g, rfl, hpre⟩
    exact Nat.le_of_ble_eq_true rfl
  rintro av σ ⟨B, p, g, rfl, ⟨hp1, hp2⟩⟩ Rt hR
  have hwk := xwk6 hp2
  refine xfor0 2 (tn (σ.1 B 2)) 60 20 (fun i => [some (.ref B), some (.int p), some (.int g), some (.int (nI i))]) (fun i => σ) (fun i => ∀ j, j < i → decide (σ.1 (B + 20 + j) 1 = p ∧ σ.1 (B + 20 + j) 3 = g) = false) (fun j hj => by omega) (fun i hi hH => ?_) ?_
  · simp only [xwp_0, xwp_1, xws_s, xdd_o, xld_0, xld_s, xs1_0, xs1_1, xs1_s, xs2_0, xs2_1, xs2_s, xlg_n, xlg_i, xlg_r, xlg_z, xlg_l, xf4_0, xf4_1, xf4_2, xf4_3, xgo_e, xcmp_eq, xcmp_ne, xcmp_lt, xcmp_ge, xcmp_gt, xcmp_le, xfg_0, xfg_1, xfg_2, xfg_3, xfg_4, xpop_0, xpop_s, xsw_n, xsw_c, xtb_n, xtb_c, xenp_n, xenp_i, xenp_r, xenp_z, xenp_l, xrep_0, xrep_s, Nat.reduceSub, true_and, and_true, cat_i, cat_r, Nat.reduceAdd, Nat.reduceLT, Nat.reduceLeDiff, Nat.reduceEqDiff, xnc, Int.reduceAdd, Int.reduceSub, Int.reduceNeg, Int.reduceLE, Int.reduceLT, Int.reduceToNat, ↓reduceIte, List.length_cons, List.length_nil, xlc0, xlc1, ite_10, i10, i01, i0_2, i0_3, i0_4, i0_6, i0_7, i0_8, i0_49, i0_10, or_true, true_or, or_false, false_or, not_false_eq_true, not_true_eq_false, xnt, xI_g, eq_self, xI_2, xJ_1, false_and, and_false, obT_t, obS_t, ob6_t, ob2_t, ob0_t, kT1_t, kT2_t, kT3_t, kT4_t, lT1, lT2, rT6, rT7, rT8, rT9, rT1i, rT2i, rS2, kSe_t, lSe, r0_0, r0_1, r0_2, r0_3, r0_4, r0_5, r0_6, r0_7, r0_8, r0_9, r1_i, r2_4, r2_5, r4_4, a1_t, a3_t, a5_t, a6_t, a7_t, a8_t, l1, l3, l5, l6, l7, l8, T1, T2, T3, T4, nI8, nI6, nI160, nI20, nI401, nI49, ob5_t, ob1_t, vp_tn, tn_def, lgc, dX4_hasSomebodySo_0, st_iconst, dX4_hasSomebodySo_1, st_istore_n, dX4_hasSomebodySo_2, st_iload_n, dX4_hasSomebodySo_3, st_aload_n, dX4_hasSomebodySo_4, st_getfield, fl_X4_19, dX4_hasSomebodySo_7, st_if_icmp, dX4_hasSomebodySo_10, dX4_hasSomebodySo_11, dX4_hasSomebodySo_12, st_invokevirtual, dX4_hasSomebodySo_15, fl_X4_84, dX4_hasSomebodySo_18, dX4_hasSomebodySo_19, dX4_hasSomebodySo_22, dX4_hasSomebodySo_23, dX4_hasSomebodySo_24, dX4_hasSomebodySo_27, fl_X4_90, dX4_hasSomebodySo_30, dX4_hasSomebodySo_31, dX4_hasSomebodySo_34, dX4_hasSomebodySo_35, st_ireturn, dX4_hasSomebodySo_36, st_iinc, dX4_hasSomebodySo_39, st_goto, dX4_hasSomebodySo_42, dX4_hasSomebodySo_43, c_X4_hasSomebodySo_65, pX4_who_e, fX4_who_e, Option.toList_some, Option.toList_none, List.cons_append, List.nil_append, ofI_0, ofI_1, hp1, hp2]
    have hc := le_nI_tn (i := i) (x := σ.1 B 2) hi
    have h6n := hwk
    refine ⟨fun h => ?_, fun h => ?_⟩
    · have hn : i = tn (σ.1 B 2) := by rw [hc] at h; omega
      rw [hR, fX4_hasSomebodySo_e, xany_f (by rw [← hn]; exact hH)]
      exact ⟨rfl, rfl⟩
    · have hn : i < tn (σ.1 B 2) := by rw [hc] at h; omega
      have h6 : i < 6 := by omega
      simp only [whoK_n h6]
      have c1 : σ.1 (B + 20 + i) 1 = p ∧ σ.1 (B + 20 + i) 3 = g → Rt (some (.int 1)) σ := fun h2 => by
        rw [hR, fX4_hasSomebodySo_e, xany_t hn (decide_eq_true h2)]
        exact ⟨rfl, rfl⟩
      have c2 : ¬ (σ.1 (B + 20 + i) 1 = p ∧ σ.1 (B + 20 + i) 3 = g) → (∀ j, j < i + 1 → decide (σ.1 (B + 20 + j) 1 = p ∧ σ.1 (B + 20 + j) 3 = g) = false) := fun h2 => xall_s hH (decide_eq_false h2)
      have e1 : nI i + 1 = nI (i + 1) := nI_1 i
      grind
  · simp only [xwp_0, xwp_1, xws_s, xdd_o, xld_0, xld_s, xs1_0, xs1_1, xs1_s, xs2_0, xs2_1, xs2_s, xlg_n, xlg_i, xlg_r, xlg_z, xlg_l, xf4_0, xf4_1, xf4_2, xf4_3, xgo_e, xcmp_eq, xcmp_ne, xcmp_lt, xcmp_ge, xcmp_gt, xcmp_le, xfg_0, xfg_1, xfg_2, xfg_3, xfg_4, xpop_0, xpop_s, xsw_n, xsw_c, xtb_n, xtb_c, xenp_n, xenp_i, xenp_r, xenp_z, xenp_l, xrep_0, xrep_s, Nat.reduceSub, true_and, and_true, cat_i, cat_r, Nat.reduceAdd, Nat.reduceLT, Nat.reduceLeDiff, Nat.reduceEqDiff, xnc, Int.reduceAdd, Int.reduceSub, Int.reduceNeg, Int.reduceLE, Int.reduceLT, Int.reduceToNat, ↓reduceIte, List.length_cons, List.length_nil, xlc0, xlc1, ite_10, i10, i01, i0_2, i0_3, i0_4, i0_6, i0_7, i0_8, i0_49, i0_10, or_true, true_or, or_false, false_or, not_false_eq_true, not_true_eq_false, xnt, xI_g, eq_self, xI_2, xJ_1, false_and, and_false, obT_t, obS_t, ob6_t, ob2_t, ob0_t, kT1_t, kT2_t, kT3_t, kT4_t, lT1, lT2, rT6, rT7, rT8, rT9, rT1i, rT2i, rS2, kSe_t, lSe, r0_0, r0_1, r0_2, r0_3, r0_4, r0_5, r0_6, r0_7, r0_8, r0_9, r1_i, r2_4, r2_5, r4_4, a1_t, a3_t, a5_t, a6_t, a7_t, a8_t, l1, l3, l5, l6, l7, l8, T1, T2, T3, T4, nI8, nI6, nI160, nI20, nI401, nI49, ob5_t, ob1_t, vp_tn, tn_def, lgc, dX4_hasSomebodySo_0, st_iconst, dX4_hasSomebodySo_1, st_istore_n, dX4_hasSomebodySo_2, st_iload_n, dX4_hasSomebodySo_3, st_aload_n, dX4_hasSomebodySo_4, st_getfield, fl_X4_19, dX4_hasSomebodySo_7, st_if_icmp, dX4_hasSomebodySo_10, dX4_hasSomebodySo_11, dX4_hasSomebodySo_12, st_invokevirtual, dX4_hasSomebodySo_15, fl_X4_84, dX4_hasSomebodySo_18, dX4_hasSomebodySo_19, dX4_hasSomebodySo_22, dX4_hasSomebodySo_23, dX4_hasSomebodySo_24, dX4_hasSomebodySo_27, fl_X4_90, dX4_hasSomebodySo_30, dX4_hasSomebodySo_31, dX4_hasSomebodySo_34, dX4_hasSomebodySo_35, st_ireturn, dX4_hasSomebodySo_36, st_iinc, dX4_hasSomebodySo_39, st_goto, dX4_hasSomebodySo_42, dX4_hasSomebodySo_43, c_X4_hasSomebodySo_65, pX4_who_e, fX4_who_e, Option.toList_some, Option.toList_none, List.cons_append, List.nil_append, ofI_0, ofI_1, hp1, hp2]
    first | exact rfl | exact ⟨rfl, rfl⟩ | trivial
theorem rX4_hasSomebodySo : ∀ as σ, pX4_hasSomebodySo as σ → ∃ K as', as = .ref K :: as' ∧ xob WX K 4 := by
  rintro as σ ⟨B, p, g, rfl, hpre⟩
  exact ⟨_, _, rfl, by first | exact hpre | exact hpre.1 | exact obT hpre | exact obT hpre.1 | exact obS hpre | exact obS hpre.1 | exact obM | exact ob6 | exact ob2 | exact ob0⟩
def pX4_isFree (as : List Value) (σ : xS) : Prop := ∃ (B : Nat) (p : Int32), as = [.ref B, .int p] ∧ ((xTw B) ∧ (σ.1 B 2 ≤ 6))
def fX4_isFree (as : List Value) (σ : xS) : Option Value × xS := match as with
  | [.ref B, .int p] => (some (.int (if ¬ (xlushr (σ.2 B 0) p &&& 1 = 1) ∧ xany (fun i => decide (σ.1 (B + 20 + i) 1 = p)) (tn (σ.1 B 2)) = false then 1 else 0)), σ)
  | _ => (none, σ)
theorem pX4_isFree_e {B : Nat} {p : Int32} {σ : xS} : pX4_isFree [.ref B, .int p] σ = ((xTw B) ∧ (σ.1 B 2 ≤ 6)) := propext ⟨fun h => by obtain ⟨B, p, e, h⟩ := h; cases e; exact h, fun h => ⟨B, p, rfl, h⟩⟩
theorem fX4_isFree_e {B : Nat} {p : Int32} {σ : xS} : fX4_isFree [.ref B, .int p] σ = (some (.int (if ¬ (xlushr (σ.2 B 0) p &&& 1 = 1) ∧ xany (fun i => decide (σ.1 (B + 20 + i) 1 = p)) (tn (σ.1 B 2)) = false then 1 else 0)), σ) := rfl
def calX4_isFree : List (Nat × xCall) := [(104, (false, 2, pX4_isWalled, fX4_isWalled)), (108, (false, 2, pX4_hasSomebodyAt, fX4_hasSomebodyAt))]
theorem c_X4_isFree_104 : xlk calX4_isFree 104 = some (false, 2, pX4_isWalled, fX4_isWalled) := rfl
theorem c_X4_isFree_108 : xlk calX4_isFree 108 = some (false, 2, pX4_hasSomebodyAt, fX4_hasSomebodyAt) := rfl
set_option maxHeartbeats 4000000 in
set_option maxRecDepth 100000 in
theorem mX4_isFree : xMet WX yX4_isFree cX4_isFree 2 (some .boolean) 3 pX4_isFree fX4_isFree := by
  refine xMet_of (fld := xlk fldX4) (cal := xlk calX4_isFree) (ks := xlk []) (gs := xlk []) (ro := fun _ => none) 1 (by decide) WX_nd rfl fldX4_ok xKs_nil xGs_nil (Or.inr rfl) (xcal_cons (xCk_V mX4_isWalled 4 (by decide) (by decide) (by decide) rfl (fun as σ h _ => rX4_isWalled as σ h) w_X4_104 ⟨by decide, by decide, by decide +kernel⟩) (xcal_cons (xCk_V mX4_hasSomebodyAt 4 (by decide) (by decide) (by decide) rfl (fun as σ h _ => rX4_hasSomebodyAt as σ h) w_X4_108 ⟨by decide, by decide, by decide +kernel⟩) xcal_nil)) ?_ ?_
  · rintro av σ ⟨B, p, rfl, hpre⟩
    exact Nat.le_of_ble_eq_true rfl
  rintro av σ ⟨B, p, rfl, ⟨hp1, hp2⟩⟩ Rt hR
  refine xgo0 14 ?_
  simp (config := {maxSteps := 2000000}) only [xwp_0, xwp_1, xws_s, xdd_o, xld_0, xld_s, xs1_0, xs1_1, xs1_s, xs2_0, xs2_1, xs2_s, xlg_n, xlg_i, xlg_r, xlg_z, xlg_l, xf4_0, xf4_1, xf4_2, xf4_3, xgo_e, xcmp_eq, xcmp_ne, xcmp_lt, xcmp_ge, xcmp_gt, xcmp_le, xfg_0, xfg_1, xfg_2, xfg_3, xfg_4, xpop_0, xpop_s, xsw_n, xsw_c, xtb_n, xtb_c, xenp_n, xenp_i, xenp_r, xenp_z, xenp_l, xrep_0, xrep_s, Nat.reduceSub, true_and, and_true, cat_i, cat_r, Nat.reduceAdd, Nat.reduceLT, Nat.reduceLeDiff, Nat.reduceEqDiff, xnc, Int.reduceAdd, Int.reduceSub, Int.reduceNeg, Int.reduceLE, Int.reduceLT, Int.reduceToNat, ↓reduceIte, List.length_cons, List.length_nil, xlc0, xlc1, ite_10, i10, i01, i0_2, i0_3, i0_4, i0_6, i0_7, i0_8, i0_49, i0_10, or_true, true_or, or_false, false_or, not_false_eq_true, not_true_eq_false, xnt, xI_g, eq_self, xI_2, xJ_1, false_and, and_false, obT_t, obS_t, ob6_t, ob2_t, ob0_t, kT1_t, kT2_t, kT3_t, kT4_t, lT1, lT2, rT6, rT7, rT8, rT9, rT1i, rT2i, rS2, kSe_t, lSe, r0_0, r0_1, r0_2, r0_3, r0_4, r0_5, r0_6, r0_7, r0_8, r0_9, r1_i, r2_4, r2_5, r4_4, a1_t, a3_t, a5_t, a6_t, a7_t, a8_t, l1, l3, l5, l6, l7, l8, T1, T2, T3, T4, nI8, nI6, nI160, nI20, nI401, nI49, ob5_t, ob1_t, vp_tn, tn_def, lgc, dX4_isFree_0, st_aload_n, dX4_isFree_1, st_iload_n, dX4_isFree_2, st_invokevirtual, dX4_isFree_5, st_ifCond, dX4_isFree_8, dX4_isFree_9, dX4_isFree_10, dX4_isFree_13, dX4_isFree_16, st_iconst, dX4_isFree_17, st_goto, dX4_isFree_20, dX4_isFree_21, st_ireturn, c_X4_isFree_104, pX4_isWalled_e, fX4_isWalled_e, Option.toList_some, Option.toList_none, List.cons_append, List.nil_append, c_X4_isFree_108, pX4_hasSomebodyAt_e, fX4_hasSomebodyAt_e, ofI_1, ofI_0, hp1, hp2]
  try simp only [hR, fX4_isFree_e, Option.some.injEq, Value.int.injEq, Value.long.injEq, Value.ref.injEq, and_true, true_and]
  all_goals grind
theorem rX4_isFree : ∀ as σ, pX4_isFree as σ → ∃ K as', as = .ref K :: as' ∧ xob WX K 4 := by
  rintro as σ ⟨B, p, rfl, hpre⟩
  exact ⟨_, _, rfl, by first | exact hpre | exact hpre.1 | exact obT hpre | exact obT hpre.1 | exact obS hpre | exact obS hpre.1 | exact obM | exact ob6 | exact ob2 | exact ob0⟩
def pX4_havers (as : List Value) (σ : xS) : Prop := ∃ (B : Nat) (g : Int32), as = [.ref B, .int g] ∧ ((xTw B) ∧ (σ.1 B 2 ≤ 6))
def fX4_havers (as : List Value) (σ : xS) : Option Value × xS := match as with
  | [.ref B, .int g] => (some (.int (xbits (fun i => decide (σ.1 (B + 20 + i) 3 = g)) (tn (σ.1 B 2)))), σ)
  | _ => (none, σ)
theorem pX4_havers_e {B : Nat} {g : Int32} {σ : xS} : pX4_havers [.ref B, .int g] σ = ((xTw B) ∧ (σ.1 B 2 ≤ 6)) := propext ⟨fun h => by obtain ⟨B, g, e, h⟩ := h; cases e; exact h, fun h => ⟨B, g, rfl, h⟩⟩
theorem fX4_havers_e {B : Nat} {g : Int32} {σ : xS} : fX4_havers [.ref B, .int g] σ = (some (.int (xbits (fun i => decide (σ.1 (B + 20 + i) 3 = g)) (tn (σ.1 B 2)))), σ) := rfl
def calX4_havers : List (Nat × xCall) := [(65, (false, 2, pX4_who, fX4_who))]
theorem c_X4_havers_65 : xlk calX4_havers 65 = some (false, 2, pX4_who, fX4_who) := rfl
set_option maxHeartbeats 4000000 in
set_option maxRecDepth 100000 in
theorem mX4_havers : xMet WX yX4_havers cX4_havers 4 (some .int) 2 pX4_havers fX4_havers := by
  refine xMet_of (fld := xlk fldX4) (cal := xlk calX4_havers) (ks := xlk []) (gs := xlk []) (ro := fun _ => none) 0 (by decide) WX_nd rfl fldX4_ok xKs_nil xGs_nil (Or.inr rfl) (xcal_cons (xCk_V mX4_who 4 (by decide) (by decide) (by decide) rfl (fun as σ h _ => rX4_who as σ h) w_X4_65 ⟨by decide, by decide, by decide +kernel⟩) xcal_nil) ?_ ?_
  · rintro av σ ⟨B, g, rfl, hpre⟩
    exact Nat.le_of_ble_eq_true rfl
  rintro av σ ⟨B, g, rfl, ⟨hp1, hp2⟩⟩ Rt hR
  have hwk := xwk6 hp2
  refine xfor0 4 (tn (σ.1 B 2)) 60 20 (fun i => [some (.ref B), some (.int g), some (.int (xbits (fun i => decide (σ.1 (B + 20 + i) 3 = g)) i)), some (.int (nI i))]) (fun i => σ) (fun i => True) (trivial) (fun i hi hH => ?_) ?_
  · simp only [xwp_0, xwp_1, xws_s, xdd_o, xld_0, xld_s, xs1_0, xs1_1, xs1_s, xs2_0, xs2_1, xs2_s, xlg_n, xlg_i, xlg_r, xlg_z, xlg_l, xf4_0, xf4_1, xf4_2, xf4_3, xgo_e, xcmp_eq, xcmp_ne, xcmp_lt, xcmp_ge, xcmp_gt, xcmp_le, xfg_0, xfg_1, xfg_2, xfg_3, xfg_4, xpop_0, xpop_s, xsw_n, xsw_c, xtb_n, xtb_c, xenp_n, xenp_i, xenp_r, xenp_z, xenp_l, xrep_0, xrep_s, Nat.reduceSub, true_and, and_true, cat_i, cat_r, Nat.reduceAdd, Nat.reduceLT, Nat.reduceLeDiff, Nat.reduceEqDiff, xnc, Int.reduceAdd, Int.reduceSub, Int.reduceNeg, Int.reduceLE, Int.reduceLT, Int.reduceToNat, ↓reduceIte, List.length_cons, List.length_nil, xlc0, xlc1, ite_10, i10, i01, i0_2, i0_3, i0_4, i0_6, i0_7, i0_8, i0_49, i0_10, or_true, true_or, or_false, false_or, not_false_eq_true, not_true_eq_false, xnt, xI_g, eq_self, xI_2, xJ_1, false_and, and_false, obT_t, obS_t, ob6_t, ob2_t, ob0_t, kT1_t, kT2_t, kT3_t, kT4_t, lT1, lT2, rT6, rT7, rT8, rT9, rT1i, rT2i, rS2, kSe_t, lSe, r0_0, r0_1, r0_2, r0_3, r0_4, r0_5, r0_6, r0_7, r0_8, r0_9, r1_i, r2_4, r2_5, r4_4, a1_t, a3_t, a5_t, a6_t, a7_t, a8_t, l1, l3, l5, l6, l7, l8, T1, T2, T3, T4, nI8, nI6, nI160, nI20, nI401, nI49, ob5_t, ob1_t, vp_tn, tn_def, lgc, dX4_havers_0, st_iconst, dX4_havers_1, st_istore_n, dX4_havers_2, dX4_havers_3, dX4_havers_4, st_iload_n, dX4_havers_5, st_aload_n, dX4_havers_6, st_getfield, fl_X4_19, dX4_havers_9, st_if_icmp, dX4_havers_12, dX4_havers_13, dX4_havers_14, st_invokevirtual, dX4_havers_17, fl_X4_90, dX4_havers_20, dX4_havers_21, dX4_havers_24, dX4_havers_25, dX4_havers_26, dX4_havers_27, st_ishl, dX4_havers_28, st_ior, dX4_havers_29, dX4_havers_30, st_iinc, dX4_havers_33, st_goto, dX4_havers_36, dX4_havers_37, st_ireturn, c_X4_havers_65, pX4_who_e, fX4_who_e, Option.toList_some, Option.toList_none, List.cons_append, List.nil_append, ofI_0, ofI_1, hp1, hp2]
    have hc := le_nI_tn (i := i) (x := σ.1 B 2) hi
    have h6n := hwk
    refine ⟨fun h => ?_, fun h => ?_⟩
    · have hn : i = tn (σ.1 B 2) := by rw [hc] at h; omega
      rw [hR, fX4_havers_e, ← hn]
      exact ⟨rfl, rfl⟩
    · have hn : i < tn (σ.1 B 2) := by rw [hc] at h; omega
      have h6 : i < 6 := by omega
      simp only [whoK_n h6]
      refine ⟨fun h2 => ?_, fun h2 => ?_⟩
      all_goals first
        | (refine ⟨hn, ?_⟩
           rw [nI_1, xbits, if_pos (decide_eq_true h2)])
        | (refine ⟨hn, ?_⟩
           rw [nI_1, xbits, if_neg (by simpa using h2)])
  · simp only [xwp_0, xwp_1, xws_s, xdd_o, xld_0, xld_s, xs1_0, xs1_1, xs1_s, xs2_0, xs2_1, xs2_s, xlg_n, xlg_i, xlg_r, xlg_z, xlg_l, xf4_0, xf4_1, xf4_2, xf4_3, xgo_e, xcmp_eq, xcmp_ne, xcmp_lt, xcmp_ge, xcmp_gt, xcmp_le, xfg_0, xfg_1, xfg_2, xfg_3, xfg_4, xpop_0, xpop_s, xsw_n, xsw_c, xtb_n, xtb_c, xenp_n, xenp_i, xenp_r, xenp_z, xenp_l, xrep_0, xrep_s, Nat.reduceSub, true_and, and_true, cat_i, cat_r, Nat.reduceAdd, Nat.reduceLT, Nat.reduceLeDiff, Nat.reduceEqDiff, xnc, Int.reduceAdd, Int.reduceSub, Int.reduceNeg, Int.reduceLE, Int.reduceLT, Int.reduceToNat, ↓reduceIte, List.length_cons, List.length_nil, xlc0, xlc1, ite_10, i10, i01, i0_2, i0_3, i0_4, i0_6, i0_7, i0_8, i0_49, i0_10, or_true, true_or, or_false, false_or, not_false_eq_true, not_true_eq_false, xnt, xI_g, eq_self, xI_2, xJ_1, false_and, and_false, obT_t, obS_t, ob6_t, ob2_t, ob0_t, kT1_t, kT2_t, kT3_t, kT4_t, lT1, lT2, rT6, rT7, rT8, rT9, rT1i, rT2i, rS2, kSe_t, lSe, r0_0, r0_1, r0_2, r0_3, r0_4, r0_5, r0_6, r0_7, r0_8, r0_9, r1_i, r2_4, r2_5, r4_4, a1_t, a3_t, a5_t, a6_t, a7_t, a8_t, l1, l3, l5, l6, l7, l8, T1, T2, T3, T4, nI8, nI6, nI160, nI20, nI401, nI49, ob5_t, ob1_t, vp_tn, tn_def, lgc, dX4_havers_0, st_iconst, dX4_havers_1, st_istore_n, dX4_havers_2, dX4_havers_3, dX4_havers_4, st_iload_n, dX4_havers_5, st_aload_n, dX4_havers_6, st_getfield, fl_X4_19, dX4_havers_9, st_if_icmp, dX4_havers_12, dX4_havers_13, dX4_havers_14, st_invokevirtual, dX4_havers_17, fl_X4_90, dX4_havers_20, dX4_havers_21, dX4_havers_24, dX4_havers_25, dX4_havers_26, dX4_havers_27, st_ishl, dX4_havers_28, st_ior, dX4_havers_29, dX4_havers_30, st_iinc, dX4_havers_33, st_goto, dX4_havers_36, dX4_havers_37, st_ireturn, c_X4_havers_65, pX4_who_e, fX4_who_e, Option.toList_some, Option.toList_none, List.cons_append, List.nil_append, ofI_0, ofI_1, hp1, hp2]
    first | exact rfl | exact ⟨rfl, rfl⟩ | trivial
theorem rX4_havers : ∀ as σ, pX4_havers as σ → ∃ K as', as = .ref K :: as' ∧ xob WX K 4 := by
  rintro as σ ⟨B, g, rfl, hpre⟩
  exact ⟨_, _, rfl, by first | exact hpre | exact hpre.1 | exact obT hpre | exact obT hpre.1 | exact obS hpre | exact obS hpre.1 | exact obM | exact ob6 | exact ob2 | exact ob0⟩
def pX4_haveAll (as : List Value) (σ : xS) : Prop := ∃ (B : Nat) (g : Int32), as = [.ref B, .int g] ∧ ((xTw B) ∧ (σ.1 B 2 ≤ 6))
def fX4_haveAll (as : List Value) (σ : xS) : Option Value × xS := match as with
  | [.ref B, .int g] => (some (.int (if xany (fun i => decide (¬ σ.1 (B + 20 + i) 3 = g)) (tn (σ.1 B 2)) = false then 1 else 0)), σ)
  | _ => (none, σ)
theorem pX4_haveAll_e {B : Nat} {g : Int32} {σ : xS} : pX4_haveAll [.ref B, .int g] σ = ((xTw B) ∧ (σ.1 B 2 ≤ 6)) := propext ⟨fun h => by obtain ⟨B, g, e, h⟩ := h; cases e; exact h, fun h => ⟨B, g, rfl, h⟩⟩
theorem fX4_haveAll_e {B : Nat} {g : Int32} {σ : xS} : fX4_haveAll [.ref B, .int g] σ = (some (.int (if xany (fun i => decide (¬ σ.1 (B + 20 + i) 3 = g)) (tn (σ.1 B 2)) = false then 1 else 0)), σ) := rfl
def calX4_haveAll : List (Nat × xCall) := [(65, (false, 2, pX4_who, fX4_who))]
theorem c_X4_haveAll_65 : xlk calX4_haveAll 65 = some (false, 2, pX4_who, fX4_who) := rfl
set_option maxHeartbeats 4000000 in
set_option maxRecDepth 100000 in
theorem mX4_haveAll : xMet WX yX4_haveAll cX4_haveAll 3 (some .boolean) 2 pX4_haveAll fX4_haveAll := by
  refine xMet_of (fld := xlk fldX4) (cal := xlk calX4_haveAll) (ks := xlk []) (gs := xlk []) (ro := fun _ => none) 1 (by decide) WX_nd rfl fldX4_ok xKs_nil xGs_nil (Or.inr rfl) (xcal_cons (xCk_V mX4_who 4 (by decide) (by decide) (by decide) rfl (fun as σ h _ => rX4_who as σ h) w_X4_65 ⟨by decide, by decide, by decide +kernel⟩) xcal_nil) ?_ ?_
  · rintro av σ ⟨B, g, rfl, hpre⟩
    exact Nat.le_of_ble_eq_true rfl
  rintro av σ ⟨B, g, rfl, ⟨hp1, hp2⟩⟩ Rt hR
  have hwk := xwk6 hp2
  refine xfor0 2 (tn (σ.1 B 2)) 60 20 (fun i => [some (.ref B), some (.int g), some (.int (nI i))]) (fun i => σ) (fun i => ∀ j, j < i → decide (¬ σ.1 (B + 20 + j) 3 = g) = false) (fun j hj => by omega) (fun i hi hH => ?_) ?_
  · simp only [xwp_0, xwp_1, xws_s, xdd_o, xld_0, xld_s, xs1_0, xs1_1, xs1_s, xs2_0, xs2_1, xs2_s, xlg_n, xlg_i, xlg_r, xlg_z, xlg_l, xf4_0, xf4_1, xf4_2, xf4_3, xgo_e, xcmp_eq, xcmp_ne, xcmp_lt, xcmp_ge, xcmp_gt, xcmp_le, xfg_0, xfg_1, xfg_2, xfg_3, xfg_4, xpop_0, xpop_s, xsw_n, xsw_c, xtb_n, xtb_c, xenp_n, xenp_i, xenp_r, xenp_z, xenp_l, xrep_0, xrep_s, Nat.reduceSub, true_and, and_true, cat_i, cat_r, Nat.reduceAdd, Nat.reduceLT, Nat.reduceLeDiff, Nat.reduceEqDiff, xnc, Int.reduceAdd, Int.reduceSub, Int.reduceNeg, Int.reduceLE, Int.reduceLT, Int.reduceToNat, ↓reduceIte, List.length_cons, List.length_nil, xlc0, xlc1, ite_10, i10, i01, i0_2, i0_3, i0_4, i0_6, i0_7, i0_8, i0_49, i0_10, or_true, true_or, or_false, false_or, not_false_eq_true, not_true_eq_false, xnt, xI_g, eq_self, xI_2, xJ_1, false_and, and_false, obT_t, obS_t, ob6_t, ob2_t, ob0_t, kT1_t, kT2_t, kT3_t, kT4_t, lT1, lT2, rT6, rT7, rT8, rT9, rT1i, rT2i, rS2, kSe_t, lSe, r0_0, r0_1, r0_2, r0_3, r0_4, r0_5, r0_6, r0_7, r0_8, r0_9, r1_i, r2_4, r2_5, r4_4, a1_t, a3_t, a5_t, a6_t, a7_t, a8_t, l1, l3, l5, l6, l7, l8, T1, T2, T3, T4, nI8, nI6, nI160, nI20, nI401, nI49, ob5_t, ob1_t, vp_tn, tn_def, lgc, dX4_haveAll_0, st_iconst, dX4_haveAll_1, st_istore_n, dX4_haveAll_2, st_iload_n, dX4_haveAll_3, st_aload_n, dX4_haveAll_4, st_getfield, fl_X4_19, dX4_haveAll_7, st_if_icmp, dX4_haveAll_10, dX4_haveAll_11, dX4_haveAll_12, st_invokevirtual, dX4_haveAll_15, fl_X4_90, dX4_haveAll_18, dX4_haveAll_19, dX4_haveAll_22, dX4_haveAll_23, st_ireturn, dX4_haveAll_24, st_iinc, dX4_haveAll_27, st_goto, dX4_haveAll_30, dX4_haveAll_31, c_X4_haveAll_65, pX4_who_e, fX4_who_e, Option.toList_some, Option.toList_none, List.cons_append, List.nil_append, ofI_0, ofI_1, hp1, hp2]
    have hc := le_nI_tn (i := i) (x := σ.1 B 2) hi
    have h6n := hwk
    refine ⟨fun h => ?_, fun h => ?_⟩
    · have hn : i = tn (σ.1 B 2) := by rw [hc] at h; omega
      rw [hR, fX4_haveAll_e, xany_f (by rw [← hn]; exact hH)]
      exact ⟨rfl, rfl⟩
    · have hn : i < tn (σ.1 B 2) := by rw [hc] at h; omega
      have h6 : i < 6 := by omega
      simp only [whoK_n h6]
      refine ⟨fun h2 => ?_, fun h2 => ?_⟩
      all_goals first
        | (rw [hR, fX4_haveAll_e, xany_t hn (decide_eq_true h2)]
           exact ⟨rfl, rfl⟩)
        | (exact ⟨hn, xall_s hH (decide_eq_false (fun q => q h2)), by rw [nI_1]⟩)
  · simp only [xwp_0, xwp_1, xws_s, xdd_o, xld_0, xld_s, xs1_0, xs1_1, xs1_s, xs2_0, xs2_1, xs2_s, xlg_n, xlg_i, xlg_r, xlg_z, xlg_l, xf4_0, xf4_1, xf4_2, xf4_3, xgo_e, xcmp_eq, xcmp_ne, xcmp_lt, xcmp_ge, xcmp_gt, xcmp_le, xfg_0, xfg_1, xfg_2, xfg_3, xfg_4, xpop_0, xpop_s, xsw_n, xsw_c, xtb_n, xtb_c, xenp_n, xenp_i, xenp_r, xenp_z, xenp_l, xrep_0, xrep_s, Nat.reduceSub, true_and, and_true, cat_i, cat_r, Nat.reduceAdd, Nat.reduceLT, Nat.reduceLeDiff, Nat.reduceEqDiff, xnc, Int.reduceAdd, Int.reduceSub, Int.reduceNeg, Int.reduceLE, Int.reduceLT, Int.reduceToNat, ↓reduceIte, List.length_cons, List.length_nil, xlc0, xlc1, ite_10, i10, i01, i0_2, i0_3, i0_4, i0_6, i0_7, i0_8, i0_49, i0_10, or_true, true_or, or_false, false_or, not_false_eq_true, not_true_eq_false, xnt, xI_g, eq_self, xI_2, xJ_1, false_and, and_false, obT_t, obS_t, ob6_t, ob2_t, ob0_t, kT1_t, kT2_t, kT3_t, kT4_t, lT1, lT2, rT6, rT7, rT8, rT9, rT1i, rT2i, rS2, kSe_t, lSe, r0_0, r0_1, r0_2, r0_3, r0_4, r0_5, r0_6, r0_7, r0_8, r0_9, r1_i, r2_4, r2_5, r4_4, a1_t, a3_t, a5_t, a6_t, a7_t, a8_t, l1, l3, l5, l6, l7, l8, T1, T2, T3, T4, nI8, nI6, nI160, nI20, nI401, nI49, ob5_t, ob1_t, vp_tn, tn_def, lgc, dX4_haveAll_0, st_iconst, dX4_haveAll_1, st_istore_n, dX4_haveAll_2, st_iload_n, dX4_haveAll_3, st_aload_n, dX4_haveAll_4, st_getfield, fl_X4_19, dX4_haveAll_7, st_if_icmp, dX4_haveAll_10, dX4_haveAll_11, dX4_haveAll_12, st_invokevirtual, dX4_haveAll_15, fl_X4_90, dX4_haveAll_18, dX4_haveAll_19, dX4_haveAll_22, dX4_haveAll_23, st_ireturn, dX4_haveAll_24, st_iinc, dX4_haveAll_27, st_goto, dX4_haveAll_30, dX4_haveAll_31, c_X4_haveAll_65, pX4_who_e, fX4_who_e, Option.toList_some, Option.toList_none, List.cons_append, List.nil_append, ofI_0, ofI_1, hp1, hp2]
    first | exact rfl | exact ⟨rfl, rfl⟩ | trivial
theorem rX4_haveAll : ∀ as σ, pX4_haveAll as σ → ∃ K as', as = .ref K :: as' ∧ xob WX K 4 := by
  rintro as σ ⟨B, g, rfl, hpre⟩
  exact ⟨_, _, rfl, by first | exact hpre | exact hpre.1 | exact obT hpre | exact obT hpre.1 | exact obS hpre | exact obS hpre.1 | exact obM | exact ob6 | exact ob2 | exact ob0⟩
def pX4_firstWith (as : List Value) (σ : xS) : Prop := ∃ (B : Nat) (g : Int32), as = [.ref B, .int g] ∧ ((xTw B) ∧ (σ.1 B 2 ≤ 6))
def fX4_firstWith (as : List Value) (σ : xS) : Option Value × xS := match as with
  | [.ref B, .int g] => (some (.int (xfirst (fun i => decide (σ.1 (B + 20 + i) 3 = g)) (tn (σ.1 B 2)))), σ)
  | _ => (none, σ)
theorem pX4_firstWith_e {B : Nat} {g : Int32} {σ : xS} : pX4_firstWith [.ref B, .int g] σ = ((xTw B) ∧ (σ.1 B 2 ≤ 6)) := propext ⟨fun h => by obtain ⟨B, g, e, h⟩ := h; cases e; exact h, fun h => ⟨B, g, rfl, h⟩⟩
theorem fX4_firstWith_e {B : Nat} {g : Int32} {σ : xS} : fX4_firstWith [.ref B, .int g] σ = (some (.int (xfirst (fun i => decide (σ.1 (B + 20 + i) 3 = g)) (tn (σ.1 B 2)))), σ) := rfl
def calX4_firstWith : List (Nat × xCall) := [(65, (false, 2, pX4_who, fX4_who))]
theorem c_X4_firstWith_65 : xlk calX4_firstWith 65 = some (false, 2, pX4_who, fX4_who) := rfl
set_option maxHeartbeats 4000000 in
set_option maxRecDepth 100000 in
theorem mX4_firstWith : xMet WX yX4_firstWith cX4_firstWith 3 (some .int) 2 pX4_firstWith fX4_firstWith := by
  refine xMet_of (fld := xlk fldX4) (cal := xlk calX4_firstWith) (ks := xlk []) (gs := xlk []) (ro := fun _ => none) 0 (by decide) WX_nd rfl fldX4_ok xKs_nil xGs_nil (Or.inr rfl) (xcal_cons (xCk_V mX4_who 4 (by decide) (by decide) (by decide) rfl (fun as σ h _ => rX4_who as σ h) w_X4_65 ⟨by decide, by decide, by decide +kernel⟩) xcal_nil) ?_ ?_
  · rintro av σ ⟨B, g, rfl, hpre⟩
    exact Nat.le_of_ble_eq_true rfl
  rintro av σ ⟨B, g, rfl, ⟨hp1, hp2⟩⟩ Rt hR
  have hwk := xwk6 hp2
  refine xfor0 2 (tn (σ.1 B 2)) 60 20 (fun i => [some (.ref B), some (.int g), some (.int (nI i))]) (fun i => σ) (fun i => ∀ j, j < i → decide (σ.1 (B + 20 + j) 3 = g) = false) (fun j hj => by omega) (fun i hi hH => ?_) ?_
  · simp only [xwp_0, xwp_1, xws_s, xdd_o, xld_0, xld_s, xs1_0, xs1_1, xs1_s, xs2_0, xs2_1, xs2_s, xlg_n, xlg_i, xlg_r, xlg_z, xlg_l, xf4_0, xf4_1, xf4_2, xf4_3, xgo_e, xcmp_eq, xcmp_ne, xcmp_lt, xcmp_ge, xcmp_gt, xcmp_le, xfg_0, xfg_1, xfg_2, xfg_3, xfg_4, xpop_0, xpop_s, xsw_n, xsw_c, xtb_n, xtb_c, xenp_n, xenp_i, xenp_r, xenp_z, xenp_l, xrep_0, xrep_s, Nat.reduceSub, true_and, and_true, cat_i, cat_r, Nat.reduceAdd, Nat.reduceLT, Nat.reduceLeDiff, Nat.reduceEqDiff, xnc, Int.reduceAdd, Int.reduceSub, Int.reduceNeg, Int.reduceLE, Int.reduceLT, Int.reduceToNat, ↓reduceIte, List.length_cons, List.length_nil, xlc0, xlc1, ite_10, i10, i01, i0_2, i0_3, i0_4, i0_6, i0_7, i0_8, i0_49, i0_10, or_true, true_or, or_false, false_or, not_false_eq_true, not_true_eq_false, xnt, xI_g, eq_self, xI_2, xJ_1, false_and, and_false, obT_t, obS_t, ob6_t, ob2_t, ob0_t, kT1_t, kT2_t, kT3_t, kT4_t, lT1, lT2, rT6, rT7, rT8, rT9, rT1i, rT2i, rS2, kSe_t, lSe, r0_0, r0_1, r0_2, r0_3, r0_4, r0_5, r0_6, r0_7, r0_8, r0_9, r1_i, r2_4, r2_5, r4_4, a1_t, a3_t, a5_t, a6_t, a7_t, a8_t, l1, l3, l5, l6, l7, l8, T1, T2, T3, T4, nI8, nI6, nI160, nI20, nI401, nI49, ob5_t, ob1_t, vp_tn, tn_def, lgc, dX4_firstWith_0, st_iconst, dX4_firstWith_1, st_istore_n, dX4_firstWith_2, st_iload_n, dX4_firstWith_3, st_aload_n, dX4_firstWith_4, st_getfield, fl_X4_19, dX4_firstWith_7, st_if_icmp, dX4_firstWith_10, dX4_firstWith_11, dX4_firstWith_12, st_invokevirtual, dX4_firstWith_15, fl_X4_90, dX4_firstWith_18, dX4_firstWith_19, dX4_firstWith_22, dX4_firstWith_23, st_ireturn, dX4_firstWith_24, st_iinc, dX4_firstWith_27, st_goto, dX4_firstWith_30, dX4_firstWith_31, c_X4_firstWith_65, pX4_who_e, fX4_who_e, Option.toList_some, Option.toList_none, List.cons_append, List.nil_append, ofI_0, ofI_1, ofI_m1, hp1, hp2]
    have hc := le_nI_tn (i := i) (x := σ.1 B 2) hi
    have h6n := hwk
    refine ⟨fun h => ?_, fun h => ?_⟩
    · have hn : i = tn (σ.1 B 2) := by rw [hc] at h; omega
      rw [hR, fX4_firstWith_e, xfirst_no (by rw [← hn]; exact hH)]
      exact ⟨rfl, rfl⟩
    · have hn : i < tn (σ.1 B 2) := by rw [hc] at h; omega
      have h6 : i < 6 := by omega
      simp only [whoK_n h6]
      refine ⟨fun h2 => ?_, fun h2 => ?_⟩
      all_goals first
        | (rw [hR, fX4_firstWith_e, xfirst_at hn (decide_eq_true h2) hH]
           exact ⟨rfl, rfl⟩)
        | (exact ⟨hn, xall_s hH (decide_eq_false h2), by rw [nI_1]⟩)
  · simp only [xwp_0, xwp_1, xws_s, xdd_o, xld_0, xld_s, xs1_0, xs1_1, xs1_s, xs2_0, xs2_1, xs2_s, xlg_n, xlg_i, xlg_r, xlg_z, xlg_l, xf4_0, xf4_1, xf4_2, xf4_3, xgo_e, xcmp_eq, xcmp_ne, xcmp_lt, xcmp_ge, xcmp_gt, xcmp_le, xfg_0, xfg_1, xfg_2, xfg_3, xfg_4, xpop_0, xpop_s, xsw_n, xsw_c, xtb_n, xtb_c, xenp_n, xenp_i, xenp_r, xenp_z, xenp_l, xrep_0, xrep_s, Nat.reduceSub, true_and, and_true, cat_i, cat_r, Nat.reduceAdd, Nat.reduceLT, Nat.reduceLeDiff, Nat.reduceEqDiff, xnc, Int.reduceAdd, Int.reduceSub, Int.reduceNeg, Int.reduceLE, Int.reduceLT, Int.reduceToNat, ↓reduceIte, List.length_cons, List.length_nil, xlc0, xlc1, ite_10, i10, i01, i0_2, i0_3, i0_4, i0_6, i0_7, i0_8, i0_49, i0_10, or_true, true_or, or_false, false_or, not_false_eq_true, not_true_eq_false, xnt, xI_g, eq_self, xI_2, xJ_1, false_and, and_false, obT_t, obS_t, ob6_t, ob2_t, ob0_t, kT1_t, kT2_t, kT3_t, kT4_t, lT1, lT2, rT6, rT7, rT8, rT9, rT1i, rT2i, rS2, kSe_t, lSe, r0_0, r0_1, r0_2, r0_3, r0_4, r0_5, r0_6, r0_7, r0_8, r0_9, r1_i, r2_4, r2_5, r4_4, a1_t, a3_t, a5_t, a6_t, a7_t, a8_t, l1, l3, l5, l6, l7, l8, T1, T2, T3, T4, nI8, nI6, nI160, nI20, nI401, nI49, ob5_t, ob1_t, vp_tn, tn_def, lgc, dX4_firstWith_0, st_iconst, dX4_firstWith_1, st_istore_n, dX4_firstWith_2, st_iload_n, dX4_firstWith_3, st_aload_n, dX4_firstWith_4, st_getfield, fl_X4_19, dX4_firstWith_7, st_if_icmp, dX4_firstWith_10, dX4_firstWith_11, dX4_firstWith_12, st_invokevirtual, dX4_firstWith_15, fl_X4_90, dX4_firstWith_18, dX4_firstWith_19, dX4_firstWith_22, dX4_firstWith_23, st_ireturn, dX4_firstWith_24, st_iinc, dX4_firstWith_27, st_goto, dX4_firstWith_30, dX4_firstWith_31, c_X4_firstWith_65, pX4_who_e, fX4_who_e, Option.toList_some, Option.toList_none, List.cons_append, List.nil_append, ofI_0, ofI_1, ofI_m1, hp1, hp2]
    first | exact rfl | exact ⟨rfl, rfl⟩ | trivial
theorem rX4_firstWith : ∀ as σ, pX4_firstWith as σ → ∃ K as', as = .ref K :: as' ∧ xob WX K 4 := by
  rintro as σ ⟨B, g, rfl, hpre⟩
  exact ⟨_, _, rfl, by first | exact hpre | exact hpre.1 | exact obT hpre | exact obT hpre.1 | exact obS hpre | exact obS hpre.1 | exact obM | exact ob6 | exact ob2 | exact ob0⟩
def pX4_isBarred (as : List Value) (σ : xS) : Prop := ∃ (B : Nat) (g : Int32), as = [.ref B, .int g] ∧ ((xTw B) ∧ (σ.1 B 2 ≤ 6))
def fX4_isBarred (as : List Value) (σ : xS) : Option Value × xS := match as with
  | [.ref B, .int g] => (some (.int (if xany (fun i => decide (¬ σ.1 (B + 20 + i) 3 = g ∧ ¬ (if σ.1 (B + 20 + i) 0 = 6 then σ.1 (B + 20 + i) 3 < g else σ.1 (B + 20 + i) 0 = 0 ∨ σ.1 (B + 20 + i) 0 = 3 ∨ σ.1 (B + 20 + i) 0 = 4))) (tn (σ.1 B 2)) = true then 1 else 0)), σ)
  | _ => (none, σ)
theorem pX4_isBarred_e {B : Nat} {g : Int32} {σ : xS} : pX4_isBarred [.ref B, .int g] σ = ((xTw B) ∧ (σ.1 B 2 ≤ 6)) := propext ⟨fun h => by obtain ⟨B, g, e, h⟩ := h; cases e; exact h, fun h => ⟨B, g, rfl, h⟩⟩
theorem fX4_isBarred_e {B : Nat} {g : Int32} {σ : xS} : fX4_isBarred [.ref B, .int g] σ = (some (.int (if xany (fun i => decide (¬ σ.1 (B + 20 + i) 3 = g ∧ ¬ (if σ.1 (B + 20 + i) 0 = 6 then σ.1 (B + 20 + i) 3 < g else σ.1 (B + 20 + i) 0 = 0 ∨ σ.1 (B + 20 + i) 0 = 3 ∨ σ.1 (B + 20 + i) 0 = 4))) (tn (σ.1 B 2)) = true then 1 else 0)), σ) := rfl
def calX4_isBarred : List (Nat × xCall) := [(65, (false, 2, pX4_who, fX4_who)), (111, (false, 2, pX5_wouldTake, fX5_wouldTake))]
theorem c_X4_isBarred_65 : xlk calX4_isBarred 65 = some (false, 2, pX4_who, fX4_who) := rfl
theorem c_X4_isBarred_111 : xlk calX4_isBarred 111 = some (false, 2, pX5_wouldTake, fX5_wouldTake) := rfl
set_option maxHeartbeats 4000000 in
set_option maxRecDepth 100000 in
theorem mX4_isBarred : xMet WX yX4_isBarred cX4_isBarred 3 (some .boolean) 2 pX4_isBarred fX4_isBarred := by
  refine xMet_of (fld := xlk fldX4) (cal := xlk calX4_isBarred) (ks := xlk []) (gs := xlk []) (ro := fun _ => none) 1 (by decide) WX_nd rfl fldX4_ok xKs_nil xGs_nil (Or.inr rfl) (xcal_cons (xCk_V mX4_who 4 (by decide) (by decide) (by decide) rfl (fun as σ h _ => rX4_who as σ h) w_X4_65 ⟨by decide, by decide, by decide +kernel⟩) (xcal_cons (xCk_V mX5_wouldTake 5 (by decide) (by decide) (by decide) rfl (fun as σ h _ => rX5_wouldTake as σ h) w_X4_111 ⟨by decide, by decide, by decide +kernel⟩) xcal_nil)) ?_ ?_
  · rintro av σ ⟨B, g, rfl, hpre⟩
    exact Nat.le_of_ble_eq_true rfl
  rintro av σ ⟨B, g, rfl, ⟨hp1, hp2⟩⟩ Rt hR
  have hwk := xwk6 hp2
  refine xfor0 2 (tn (σ.1 B 2)) 60 20 (fun i => [some (.ref B), some (.int g), some (.int (nI i))]) (fun i => σ) (fun i => ∀ j, j < i → decide (¬ σ.1 (B + 20 + j) 3 = g ∧ ¬ (if σ.1 (B + 20 + j) 0 = 6 then σ.1 (B + 20 + j) 3 < g else σ.1 (B + 20 + j) 0 = 0 ∨ σ.1 (B + 20 + j) 0 = 3 ∨ σ.1 (B + 20 + j) 0 = 4)) = false) (fun j hj => by omega) (fun i hi hH => ?_) ?_
  · simp only [xwp_0, xwp_1, xws_s, xdd_o, xld_0, xld_s, xs1_0, xs1_1, xs1_s, xs2_0, xs2_1, xs2_s, xlg_n, xlg_i, xlg_r, xlg_z, xlg_l, xf4_0, xf4_1, xf4_2, xf4_3, xgo_e, xcmp_eq, xcmp_ne, xcmp_lt, xcmp_ge, xcmp_gt, xcmp_le, xfg_0, xfg_1, xfg_2, xfg_3, xfg_4, xpop_0, xpop_s, xsw_n, xsw_c, xtb_n, xtb_c, xenp_n, xenp_i, xenp_r, xenp_z, xenp_l, xrep_0, xrep_s, Nat.reduceSub, true_and, and_true, cat_i, cat_r, Nat.reduceAdd, Nat.reduceLT, Nat.reduceLeDiff, Nat.reduceEqDiff, xnc, Int.reduceAdd, Int.reduceSub, Int.reduceNeg, Int.reduceLE, Int.reduceLT, Int.reduceToNat, ↓reduceIte, List.length_cons, List.length_nil, xlc0, xlc1, ite_10, i10, i01, i0_2, i0_3, i0_4, i0_6, i0_7, i0_8, i0_49, i0_10, or_true, true_or, or_false, false_or, not_false_eq_true, not_true_eq_false, xnt, xI_g, eq_self, xI_2, xJ_1, false_and, and_false, obT_t, obS_t, ob6_t, ob2_t, ob0_t, kT1_t, kT2_t, kT3_t, kT4_t, lT1, lT2, rT6, rT7, rT8, rT9, rT1i, rT2i, rS2, kSe_t, lSe, r0_0, r0_1, r0_2, r0_3, r0_4, r0_5, r0_6, r0_7, r0_8, r0_9, r1_i, r2_4, r2_5, r4_4, a1_t, a3_t, a5_t, a6_t, a7_t, a8_t, l1, l3, l5, l6, l7, l8, T1, T2, T3, T4, nI8, nI6, nI160, nI20, nI401, nI49, ob5_t, ob1_t, vp_tn, tn_def, lgc, dX4_isBarred_0, st_iconst, dX4_isBarred_1, st_istore_n, dX4_isBarred_2, st_iload_n, dX4_isBarred_3, st_aload_n, dX4_isBarred_4, st_getfield, fl_X4_19, dX4_isBarred_7, st_if_icmp, dX4_isBarred_10, dX4_isBarred_11, dX4_isBarred_12, st_invokevirtual, dX4_isBarred_15, fl_X4_90, dX4_isBarred_18, dX4_isBarred_19, dX4_isBarred_22, dX4_isBarred_23, dX4_isBarred_24, dX4_isBarred_27, dX4_isBarred_28, dX4_isBarred_31, st_ifCond, dX4_isBarred_34, dX4_isBarred_35, st_ireturn, dX4_isBarred_36, st_iinc, dX4_isBarred_39, st_goto, dX4_isBarred_42, dX4_isBarred_43, c_X4_isBarred_65, pX4_who_e, fX4_who_e, Option.toList_some, Option.toList_none, List.cons_append, List.nil_append, c_X4_isBarred_111, pX5_wouldTake_e, fX5_wouldTake_e, ofI_0, ofI_1, hp1, hp2]
    have hc := le_nI_tn (i := i) (x := σ.1 B 2) hi
    have h6n := hwk
    refine ⟨fun h => ?_, fun h => ?_⟩
    · have hn : i = tn (σ.1 B 2) := by rw [hc] at h; omega
      rw [hR, fX4_isBarred_e, xany_f (by rw [← hn]; exact hH)]
      exact ⟨rfl, rfl⟩
    · have hn : i < tn (σ.1 B 2) := by rw [hc] at h; omega
      have h6 : i < 6 := by omega
      simp only [whoK_n h6]
      have c1 : (¬ σ.1 (B + 20 + i) 3 = g ∧ ¬ (if σ.1 (B + 20 + i) 0 = 6 then σ.1 (B + 20 + i) 3 < g else σ.1 (B + 20 + i) 0 = 0 ∨ σ.1 (B + 20 + i) 0 = 3 ∨ σ.1 (B + 20 + i) 0 = 4)) → Rt (some (.int 1)) σ := fun h2 => by
        rw [hR, fX4_isBarred_e, xany_t hn (decide_eq_true h2)]
        exact ⟨rfl, rfl⟩
      have c2 : ¬ (¬ σ.1 (B + 20 + i) 3 = g ∧ ¬ (if σ.1 (B + 20 + i) 0 = 6 then σ.1 (B + 20 + i) 3 < g else σ.1 (B + 20 + i) 0 = 0 ∨ σ.1 (B + 20 + i) 0 = 3 ∨ σ.1 (B + 20 + i) 0 = 4)) → (∀ j, j < i + 1 → decide (¬ σ.1 (B + 20 + j) 3 = g ∧ ¬ (if σ.1 (B + 20 + j) 0 = 6 then σ.1 (B + 20 + j) 3 < g else σ.1 (B + 20 + j) 0 = 0 ∨ σ.1 (B + 20 + j) 0 = 3 ∨ σ.1 (B + 20 + j) 0 = 4)) = false) := fun h2 => xall_s hH (decide_eq_false h2)
      have e1 : nI i + 1 = nI (i + 1) := nI_1 i
      grind
  · simp only [xwp_0, xwp_1, xws_s, xdd_o, xld_0, xld_s, xs1_0, xs1_1, xs1_s, xs2_0, xs2_1, xs2_s, xlg_n, xlg_i, xlg_r, xlg_z, xlg_l, xf4_0, xf4_1, xf4_2, xf4_3, xgo_e, xcmp_eq, xcmp_ne, xcmp_lt, xcmp_ge, xcmp_gt, xcmp_le, xfg_0, xfg_1, xfg_2, xfg_3, xfg_4, xpop_0, xpop_s, xsw_n, xsw_c, xtb_n, xtb_c, xenp_n, xenp_i, xenp_r, xenp_z, xenp_l, xrep_0, xrep_s, Nat.reduceSub, true_and, and_true, cat_i, cat_r, Nat.reduceAdd, Nat.reduceLT, Nat.reduceLeDiff, Nat.reduceEqDiff, xnc, Int.reduceAdd, Int.reduceSub, Int.reduceNeg, Int.reduceLE, Int.reduceLT, Int.reduceToNat, ↓reduceIte, List.length_cons, List.length_nil, xlc0, xlc1, ite_10, i10, i01, i0_2, i0_3, i0_4, i0_6, i0_7, i0_8, i0_49, i0_10, or_true, true_or, or_false, false_or, not_false_eq_true, not_true_eq_false, xnt, xI_g, eq_self, xI_2, xJ_1, false_and, and_false, obT_t, obS_t, ob6_t, ob2_t, ob0_t, kT1_t, kT2_t, kT3_t, kT4_t, lT1, lT2, rT6, rT7, rT8, rT9, rT1i, rT2i, rS2, kSe_t, lSe, r0_0, r0_1, r0_2, r0_3, r0_4, r0_5, r0_6, r0_7, r0_8, r0_9, r1_i, r2_4, r2_5, r4_4, a1_t, a3_t, a5_t, a6_t, a7_t, a8_t, l1, l3, l5, l6, l7, l8, T1, T2, T3, T4, nI8, nI6, nI160, nI20, nI401, nI49, ob5_t, ob1_t, vp_tn, tn_def, lgc, dX4_isBarred_0, st_iconst, dX4_isBarred_1, st_istore_n, dX4_isBarred_2, st_iload_n, dX4_isBarred_3, st_aload_n, dX4_isBarred_4, st_getfield, fl_X4_19, dX4_isBarred_7, st_if_icmp, dX4_isBarred_10, dX4_isBarred_11, dX4_isBarred_12, st_invokevirtual, dX4_isBarred_15, fl_X4_90, dX4_isBarred_18, dX4_isBarred_19, dX4_isBarred_22, dX4_isBarred_23, dX4_isBarred_24, dX4_isBarred_27, dX4_isBarred_28, dX4_isBarred_31, st_ifCond, dX4_isBarred_34, dX4_isBarred_35, st_ireturn, dX4_isBarred_36, st_iinc, dX4_isBarred_39, st_goto, dX4_isBarred_42, dX4_isBarred_43, c_X4_isBarred_65, pX4_who_e, fX4_who_e, Option.toList_some, Option.toList_none, List.cons_append, List.nil_append, c_X4_isBarred_111, pX5_wouldTake_e, fX5_wouldTake_e, ofI_0, ofI_1, hp1, hp2]
    first | exact rfl | exact ⟨rfl, rfl⟩ | trivial
theorem rX4_isBarred : ∀ as σ, pX4_isBarred as σ → ∃ K as', as = .ref K :: as' ∧ xob WX K 4 := by
  rintro as σ ⟨B, g, rfl, hpre⟩
  exact ⟨_, _, rfl, by first | exact hpre | exact hpre.1 | exact obT hpre | exact obT hpre.1 | exact obS hpre | exact obS hpre.1 | exact obM | exact ob6 | exact ob2 | exact ob0⟩
def pX4_keepOnly (as : List Value) (σ : xS) : Prop := ∃ (B : Nat) (x : Int32), as = [.ref B, .int x] ∧ (xTw B)
def fX4_keepOnly (as : List Value) (σ : xS) : Option Value × xS := match as with
  | [.ref B, .int x] => (none, xI (cpW σ (B + 20) (whoK B x)) B 2 1)
  | _ => (none, σ)
theorem pX4_keepOnly_e {B : Nat} {x : Int32} {σ : xS} : pX4_keepOnly [.ref B, .int x] σ = (xTw B) := propext ⟨fun h => by obtain ⟨B, x, e, h⟩ := h; cases e; exact h, fun h => ⟨B, x, rfl, h⟩⟩
theorem fX4_keepOnly_e {B : Nat} {x : Int32} {σ : xS} : fX4_keepOnly [.ref B, .int x] σ = (none, xI (cpW σ (B + 20) (whoK B x)) B 2 1) := rfl
def calX4_keepOnly : List (Nat × xCall) := [(65, (false, 2, pX4_who, fX4_who)), (69, (false, 2, pX5_becomeAs, fX5_becomeAs))]
theorem c_X4_keepOnly_65 : xlk calX4_keepOnly 65 = some (false, 2, pX4_who, fX4_who) := rfl
theorem c_X4_keepOnly_69 : xlk calX4_keepOnly 69 = some (false, 2, pX5_becomeAs, fX5_becomeAs) := rfl
set_option maxHeartbeats 4000000 in
set_option maxRecDepth 100000 in
theorem mX4_keepOnly : xMet WX yX4_keepOnly cX4_keepOnly 2 none 2 pX4_keepOnly fX4_keepOnly := by
  refine xMet_of (fld := xlk fldX4) (cal := xlk calX4_keepOnly) (ks := xlk []) (gs := xlk []) (ro := fun _ => none) 4 (by decide) WX_nd rfl fldX4_ok xKs_nil xGs_nil (Or.inr rfl) (xcal_cons (xCk_V mX4_who 4 (by decide) (by decide) (by decide) rfl (fun as σ h _ => rX4_who as σ h) w_X4_65 ⟨by decide, by decide, by decide +kernel⟩) (xcal_cons (xCk_V mX5_becomeAs 5 (by decide) (by decide) (by decide) rfl (fun as σ h _ => rX5_becomeAs as σ h) w_X4_69 ⟨by decide, by decide, by decide +kernel⟩) xcal_nil)) ?_ ?_
  · rintro av σ ⟨B, x, rfl, hpre⟩
    exact Nat.le_of_ble_eq_true rfl
  rintro av σ ⟨B, x, rfl, hp1⟩ Rt hR
  refine xgo0 13 ?_
  simp (config := {maxSteps := 2000000}) only [xwp_0, xwp_1, xws_s, xdd_o, xld_0, xld_s, xs1_0, xs1_1, xs1_s, xs2_0, xs2_1, xs2_s, xlg_n, xlg_i, xlg_r, xlg_z, xlg_l, xf4_0, xf4_1, xf4_2, xf4_3, xgo_e, xcmp_eq, xcmp_ne, xcmp_lt, xcmp_ge, xcmp_gt, xcmp_le, xfg_0, xfg_1, xfg_2, xfg_3, xfg_4, xpop_0, xpop_s, xsw_n, xsw_c, xtb_n, xtb_c, xenp_n, xenp_i, xenp_r, xenp_z, xenp_l, xrep_0, xrep_s, Nat.reduceSub, true_and, and_true, cat_i, cat_r, Nat.reduceAdd, Nat.reduceLT, Nat.reduceLeDiff, Nat.reduceEqDiff, xnc, Int.reduceAdd, Int.reduceSub, Int.reduceNeg, Int.reduceLE, Int.reduceLT, Int.reduceToNat, ↓reduceIte, List.length_cons, List.length_nil, xlc0, xlc1, ite_10, i10, i01, i0_2, i0_3, i0_4, i0_6, i0_7, i0_8, i0_49, i0_10, or_true, true_or, or_false, false_or, not_false_eq_true, not_true_eq_false, xnt, xI_g, eq_self, xI_2, xJ_1, false_and, and_false, obT_t, obS_t, ob6_t, ob2_t, ob0_t, kT1_t, kT2_t, kT3_t, kT4_t, lT1, lT2, rT6, rT7, rT8, rT9, rT1i, rT2i, rS2, kSe_t, lSe, r0_0, r0_1, r0_2, r0_3, r0_4, r0_5, r0_6, r0_7, r0_8, r0_9, r1_i, r2_4, r2_5, r4_4, a1_t, a3_t, a5_t, a6_t, a7_t, a8_t, l1, l3, l5, l6, l7, l8, T1, T2, T3, T4, nI8, nI6, nI160, nI20, nI401, nI49, ob5_t, ob1_t, vp_tn, tn_def, lgc, dX4_keepOnly_0, st_aload_n, dX4_keepOnly_1, st_iconst, dX4_keepOnly_2, st_invokevirtual, dX4_keepOnly_5, dX4_keepOnly_6, st_iload_n, dX4_keepOnly_7, dX4_keepOnly_10, dX4_keepOnly_13, dX4_keepOnly_14, dX4_keepOnly_15, st_putfield, fl_X4_19, dX4_keepOnly_18, st_return_, c_X4_keepOnly_65, pX4_who_e, fX4_who_e, Option.toList_some, Option.toList_none, List.cons_append, List.nil_append, c_X4_keepOnly_69, pX5_becomeAs_e, fX5_becomeAs_e, ofI_0, ofI_1, hp1]
  have e : whoK B 0 = B + 20 := by simp [whoK, show tn 0 = 0 from rfl]
  simp only [hR, fX4_keepOnly_e, e, cpW, and_true, true_and]
  all_goals grind
theorem rX4_keepOnly : ∀ as σ, pX4_keepOnly as σ → ∃ K as', as = .ref K :: as' ∧ xob WX K 4 := by
  rintro as σ ⟨B, x, rfl, hpre⟩
  exact ⟨_, _, rfl, by first | exact hpre | exact hpre.1 | exact obT hpre | exact obT hpre.1 | exact obS hpre | exact obS hpre.1 | exact obM | exact ob6 | exact ob2 | exact ob0⟩
/-- another walker at one's place (b 0), or beside it -/
def cOth (σ : xS) (B : Nat) (x b : Int32) (i : Nat) : Bool := decide (¬ nI i = x ∧ (if b = 0 then σ.1 (whoK B x) 1 = σ.1 (B + 20 + i) 1 else iabs (σ.1 (whoK B x) 1 / 7 - σ.1 (B + 20 + i) 1 / 7) + iabs (xrem (σ.1 (whoK B x) 1) 7 - xrem (σ.1 (B + 20 + i) 1) 7) = 1))
def nOth (σ : xS) (B : Nat) (x b : Int32) (i : Nat) : Int32 := nI (xcnt (cOth σ B x b) i)
theorem nOth_t {σ : xS} {B : Nat} {x b : Int32} {i : Nat} (h : cOth σ B x b i = true) : nOth σ B x b (i + 1) = nOth σ B x b i + 1 := by
  rw [nOth, xcnt, if_pos h, nOth, nI_1]
theorem nOth_f {σ : xS} {B : Nat} {x b : Int32} {i : Nat} (h : cOth σ B x b i = false) : nOth σ B x b (i + 1) = nOth σ B x b i := by
  rw [nOth, xcnt, if_neg (by rw [h]; decide), nOth]
def pX4_countOthers (as : List Value) (σ : xS) : Prop := ∃ (B : Nat) (x : Int32) (b : Int32), as = [.ref B, .int x, .int b] ∧ ((xTw B) ∧ (σ.1 B 2 ≤ 6))
def fX4_countOthers (as : List Value) (σ : xS) : Option Value × xS := match as with
  | [.ref B, .int x, .int b] => (some (.int (nOth σ B x b (tn (σ.1 B 2)))), σ)
  | _ => (none, σ)
theorem pX4_countOthers_e {B : Nat} {x : Int32} {b : Int32} {σ : xS} : pX4_countOthers [.ref B, .int x, .int b] σ = ((xTw B) ∧ (σ.1 B 2 ≤ 6)) := propext ⟨fun h => by obtain ⟨B, x, b, e, h⟩ := h; cases e; exact h, fun h => ⟨B, x, b, rfl, h⟩⟩
theorem fX4_countOthers_e {B : Nat} {x : Int32} {b : Int32} {σ : xS} : fX4_countOthers [.ref B, .int x, .int b] σ = (some (.int (nOth σ B x b (tn (σ.1 B 2)))), σ) := rfl
def calX4_countOthers : List (Nat × xCall) := [(65, (false, 2, pX4_who, fX4_who)), (131, (false, 2, pX5_isBeside, fX5_isBeside))]
theorem c_X4_countOthers_65 : xlk calX4_countOthers 65 = some (false, 2, pX4_who, fX4_who) := rfl
theorem c_X4_countOthers_131 : xlk calX4_countOthers 131 = some (false, 2, pX5_isBeside, fX5_isBeside) := rfl
set_option maxHeartbeats 4000000 in
set_option maxRecDepth 100000 in
theorem mX4_countOthers : xMet WX yX4_countOthers cX4_countOthers 7 (some .int) 3 pX4_countOthers fX4_countOthers := by
  refine xMet_of (fld := xlk fldX4) (cal := xlk calX4_countOthers) (ks := xlk []) (gs := xlk []) (ro := fun _ => none) 0 (by decide) WX_nd rfl fldX4_ok xKs_nil xGs_nil (Or.inr rfl) (xcal_cons (xCk_V mX4_who 4 (by decide) (by decide) (by decide) rfl (fun as σ h _ => rX4_who as σ h) w_X4_65 ⟨by decide, by decide, by decide +kernel⟩) (xcal_cons (xCk_V mX5_isBeside 5 (by decide) (by decide) (by decide) rfl (fun as σ h _ => rX5_isBeside as σ h) w_X4_131 ⟨by decide, by decide, by decide +kernel⟩) xcal_nil)) ?_ ?_
  · rintro av σ ⟨B, x, b, rfl, hpre⟩
    exact Nat.le_of_ble_eq_true rfl
  rintro av σ ⟨B, x, b, rfl, ⟨hp1, hp2⟩⟩ Rt hR
  have hwk := xwk6 hp2
  refine xfor0 12 (tn (σ.1 B 2)) 60 30 (fun i => [some (.ref B), some (.int x), some (.int b), some (.ref (whoK B x)), some (.int (nOth σ B x b i)), some (.int (nI i)), xlast B i]) (fun i => σ) (fun i => True) (trivial) (fun i hi hH => ?_) ?_
  · simp only [xwp_0, xwp_1, xws_s, xdd_o, xld_0, xld_s, xs1_0, xs1_1, xs1_s, xs2_0, xs2_1, xs2_s, xlg_n, xlg_i, xlg_r, xlg_z, xlg_l, xf4_0, xf4_1, xf4_2, xf4_3, xgo_e, xcmp_eq, xcmp_ne, xcmp_lt, xcmp_ge, xcmp_gt, xcmp_le, xfg_0, xfg_1, xfg_2, xfg_3, xfg_4, xpop_0, xpop_s, xsw_n, xsw_c, xtb_n, xtb_c, xenp_n, xenp_i, xenp_r, xenp_z, xenp_l, xrep_0, xrep_s, Nat.reduceSub, true_and, and_true, cat_i, cat_r, Nat.reduceAdd, Nat.reduceLT, Nat.reduceLeDiff, Nat.reduceEqDiff, xnc, Int.reduceAdd, Int.reduceSub, Int.reduceNeg, Int.reduceLE, Int.reduceLT, Int.reduceToNat, ↓reduceIte, List.length_cons, List.length_nil, xlc0, xlc1, ite_10, i10, i01, i0_2, i0_3, i0_4, i0_6, i0_7, i0_8, i0_49, i0_10, or_true, true_or, or_false, false_or, not_false_eq_true, not_true_eq_false, xnt, xI_g, eq_self, xI_2, xJ_1, false_and, and_false, obT_t, obS_t, ob6_t, ob2_t, ob0_t, kT1_t, kT2_t, kT3_t, kT4_t, lT1, lT2, rT6, rT7, rT8, rT9, rT1i, rT2i, rS2, kSe_t, lSe, r0_0, r0_1, r0_2, r0_3, r0_4, r0_5, r0_6, r0_7, r0_8, r0_9, r1_i, r2_4, r2_5, r4_4, a1_t, a3_t, a5_t, a6_t, a7_t, a8_t, l1, l3, l5, l6, l7, l8, T1, T2, T3, T4, nI8, nI6, nI160, nI20, nI401, nI49, ob5_t, ob1_t, vp_tn, tn_def, lgc, dX4_countOthers_0, st_aload_n, dX4_countOthers_1, st_iload_n, dX4_countOthers_2, st_invokevirtual, dX4_countOthers_5, st_astore_n, dX4_countOthers_6, st_iconst, dX4_countOthers_7, st_istore, dX4_countOthers_9, dX4_countOthers_10, dX4_countOthers_12, st_iload, dX4_countOthers_14, dX4_countOthers_15, st_getfield, fl_X4_19, dX4_countOthers_18, st_if_icmp, dX4_countOthers_21, dX4_countOthers_22, dX4_countOthers_24, dX4_countOthers_27, st_astore, dX4_countOthers_29, dX4_countOthers_31, dX4_countOthers_32, dX4_countOthers_35, dX4_countOthers_36, st_ifCond, dX4_countOthers_39, dX4_countOthers_40, st_aload, dX4_countOthers_42, dX4_countOthers_45, dX4_countOthers_48, st_goto, dX4_countOthers_51, dX4_countOthers_52, fl_X4_84, dX4_countOthers_55, dX4_countOthers_57, dX4_countOthers_60, dX4_countOthers_63, st_iinc, dX4_countOthers_66, dX4_countOthers_69, dX4_countOthers_72, dX4_countOthers_74, st_ireturn, c_X4_countOthers_65, pX4_who_e, fX4_who_e, Option.toList_some, Option.toList_none, List.cons_append, List.nil_append, c_X4_countOthers_131, pX5_isBeside_e, fX5_isBeside_e, ofI_0, ofI_1, hp1, hp2]
    have hc := le_nI_tn (i := i) (x := σ.1 B 2) hi
    have h6n := hwk
    refine ⟨fun h => ?_, fun h => ?_⟩
    · have hn : i = tn (σ.1 B 2) := by rw [hc] at h; omega
      rw [hR, fX4_countOthers_e, ← hn]
      exact ⟨rfl, rfl⟩
    · have hn : i < tn (σ.1 B 2) := by rw [hc] at h; omega
      have h6 : i < 6 := by omega
      simp only [whoK_n h6]
      have e1 : nI i + 1 = nI (i + 1) := nI_1 i
      have e2 : xlast B (i + 1) = some (.ref (B + 20 + i)) := rfl
      have c1 : cOth σ B x b i = true → nOth σ B x b (i + 1) = nOth σ B x b i + 1 := nOth_t
      have c2 : cOth σ B x b i = false → nOth σ B x b (i + 1) = nOth σ B x b i := nOth_f
      have c3 : cOth σ B x b i = decide (¬ nI i = x ∧ (if b = 0 then σ.1 (whoK B x) 1 = σ.1 (B + 20 + i) 1 else iabs (σ.1 (whoK B x) 1 / 7 - σ.1 (B + 20 + i) 1 / 7) + iabs (xrem (σ.1 (whoK B x) 1) 7 - xrem (σ.1 (B + 20 + i) 1) 7) = 1)) := rfl
      simp only [iabs] at c3 ⊢
      rw [e1, e2]
      grind
  · simp only [xwp_0, xwp_1, xws_s, xdd_o, xld_0, xld_s, xs1_0, xs1_1, xs1_s, xs2_0, xs2_1, xs2_s, xlg_n, xlg_i, xlg_r, xlg_z, xlg_l, xf4_0, xf4_1, xf4_2, xf4_3, xgo_e, xcmp_eq, xcmp_ne, xcmp_lt, xcmp_ge, xcmp_gt, xcmp_le, xfg_0, xfg_1, xfg_2, xfg_3, xfg_4, xpop_0, xpop_s, xsw_n, xsw_c, xtb_n, xtb_c, xenp_n, xenp_i, xenp_r, xenp_z, xenp_l, xrep_0, xrep_s, Nat.reduceSub, true_and, and_true, cat_i, cat_r, Nat.reduceAdd, Nat.reduceLT, Nat.reduceLeDiff, Nat.reduceEqDiff, xnc, Int.reduceAdd, Int.reduceSub, Int.reduceNeg, Int.reduceLE, Int.reduceLT, Int.reduceToNat, ↓reduceIte, List.length_cons, List.length_nil, xlc0, xlc1, ite_10, i10, i01, i0_2, i0_3, i0_4, i0_6, i0_7, i0_8, i0_49, i0_10, or_true, true_or, or_false, false_or, not_false_eq_true, not_true_eq_false, xnt, xI_g, eq_self, xI_2, xJ_1, false_and, and_false, obT_t, obS_t, ob6_t, ob2_t, ob0_t, kT1_t, kT2_t, kT3_t, kT4_t, lT1, lT2, rT6, rT7, rT8, rT9, rT1i, rT2i, rS2, kSe_t, lSe, r0_0, r0_1, r0_2, r0_3, r0_4, r0_5, r0_6, r0_7, r0_8, r0_9, r1_i, r2_4, r2_5, r4_4, a1_t, a3_t, a5_t, a6_t, a7_t, a8_t, l1, l3, l5, l6, l7, l8, T1, T2, T3, T4, nI8, nI6, nI160, nI20, nI401, nI49, ob5_t, ob1_t, vp_tn, tn_def, lgc, dX4_countOthers_0, st_aload_n, dX4_countOthers_1, st_iload_n, dX4_countOthers_2, st_invokevirtual, dX4_countOthers_5, st_astore_n, dX4_countOthers_6, st_iconst, dX4_countOthers_7, st_istore, dX4_countOthers_9, dX4_countOthers_10, dX4_countOthers_12, st_iload, dX4_countOthers_14, dX4_countOthers_15, st_getfield, fl_X4_19, dX4_countOthers_18, st_if_icmp, dX4_countOthers_21, dX4_countOthers_22, dX4_countOthers_24, dX4_countOthers_27, st_astore, dX4_countOthers_29, dX4_countOthers_31, dX4_countOthers_32, dX4_countOthers_35, dX4_countOthers_36, st_ifCond, dX4_countOthers_39, dX4_countOthers_40, st_aload, dX4_countOthers_42, dX4_countOthers_45, dX4_countOthers_48, st_goto, dX4_countOthers_51, dX4_countOthers_52, fl_X4_84, dX4_countOthers_55, dX4_countOthers_57, dX4_countOthers_60, dX4_countOthers_63, st_iinc, dX4_countOthers_66, dX4_countOthers_69, dX4_countOthers_72, dX4_countOthers_74, st_ireturn, c_X4_countOthers_65, pX4_who_e, fX4_who_e, Option.toList_some, Option.toList_none, List.cons_append, List.nil_append, c_X4_countOthers_131, pX5_isBeside_e, fX5_isBeside_e, ofI_0, ofI_1, hp1, hp2]
    first | exact rfl | exact ⟨rfl, rfl⟩ | trivial
theorem rX4_countOthers : ∀ as σ, pX4_countOthers as σ → ∃ K as', as = .ref K :: as' ∧ xob WX K 4 := by
  rintro as σ ⟨B, x, b, rfl, hpre⟩
  exact ⟨_, _, rfl, by first | exact hpre | exact hpre.1 | exact obT hpre | exact obT hpre.1 | exact obS hpre | exact obS hpre.1 | exact obM | exact ob6 | exact ob2 | exact ob0⟩
