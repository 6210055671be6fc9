def fldJ6 : List (Nat × Nat × Nat × Nat) := []
theorem fldJ6_ok : xFt RJ6 (xlk fldJ6) := fun _ _ _ _ h => by cases h
def fldJ13 : List (Nat × Nat × Nat × Nat) := []
theorem fldJ13_ok : xFt RJ13 (xlk fldJ13) := fun _ _ _ _ h => by cases h
def ksJ6 : List (Nat × Value) := [(265, .int 1431655765), (266, .int 858993459), (267, .int 252645135)]
set_option maxRecDepth 200000 in
theorem ksJ6_ok : xKs RJ6 (xlk ksJ6) := xKs_of (by decide +kernel)
theorem ks_J6_265 : xlk ksJ6 265 = some (.int 1431655765) := rfl
theorem ks_J6_266 : xlk ksJ6 266 = some (.int 858993459) := rfl
theorem ks_J6_267 : xlk ksJ6 267 = some (.int 252645135) := rfl
def ksJ13 : List (Nat × Value) := [(314, .long 6148914691236517205), (316, .long 3689348814741910323), (318, .long 1085102592571150095)]
set_option maxRecDepth 200000 in
theorem ksJ13_ok : xKs RJ13 (xlk ksJ13) := xKs_of (by decide +kernel)
theorem ks_J13_314 : xlk ksJ13 314 = some (.long 6148914691236517205) := rfl
theorem ks_J13_316 : xlk ksJ13 316 = some (.long 3689348814741910323) := rfl
theorem ks_J13_318 : xlk ksJ13 318 = some (.long 1085102592571150095) := rfl
def bcA (x : Int32) : Int32 := x - (xushr x 1 &&& 1431655765)
def bcB (x : Int32) : Int32 := (x &&& 858993459) + (xushr x 2 &&& 858993459)
def bcC (x : Int32) : Int32 := (x + xushr x 4) &&& 252645135
def bcD (x : Int32) : Int32 := x + xushr x 8
def bcE (x : Int32) : Int32 := x + xushr x 16
def bc32 (x : Int32) : Int32 := bcE (bcD (bcC (bcB (bcA x)))) &&& 63
def blA (x : Int64) : Int64 := x - (xlushr x 1 &&& 6148914691236517205)
def blB (x : Int64) : Int64 := (x &&& 3689348814741910323) + (xlushr x 2 &&& 3689348814741910323)
def blC (x : Int64) : Int64 := (x + xlushr x 4) &&& 1085102592571150095
def blD (x : Int64) : Int64 := x + xlushr x 8
def blE (x : Int64) : Int64 := x + xlushr x 16
def blF (x : Int64) : Int64 := x + xlushr x 32
def bc64 (x : Int64) : Int32 := (blF (blE (blD (blC (blB (blA x)))))).toInt32 &&& 127
def pJ6_bitCount_0f7a4 (as : List Value) (σ : xS) : Prop := ∃ (x : Int32), as = [.int x] ∧ (True)
def fJ6_bitCount_0f7a4 (as : List Value) (σ : xS) : Option Value × xS := match as with
  | [.int x] => (some (.int (bc32 x)), σ)
  | _ => (none, σ)
theorem pJ6_bitCount_0f7a4_e {x : Int32} {σ : xS} : pJ6_bitCount_0f7a4 [.int x] σ = (True) := propext ⟨fun h => by obtain ⟨x, e, h⟩ := h; cases e; exact h, fun h => ⟨x, rfl, h⟩⟩
theorem fJ6_bitCount_0f7a4_e {x : Int32} {σ : xS} : fJ6_bitCount_0f7a4 [.int x] σ = (some (.int (bc32 x)), σ) := rfl
def calJ6_bitCount_0f7a4 : List (Nat × xCall) := []
set_option maxHeartbeats 4000000 in
set_option maxRecDepth 100000 in
theorem mJ6_bitCount_0f7a4 : xMet WX yJ6_bitCount_0f7a4 cJ6_bitCount_0f7a4 1 (some .int) 1 pJ6_bitCount_0f7a4 fJ6_bitCount_0f7a4 := by
  refine xMet_of (fld := xlk fldJ6) (cal := xlk calJ6_bitCount_0f7a4) (ks := xlk ksJ6) (gs := xlk []) (ro := fun _ => none) 0 (by decide) WX_nd rfl fldJ6_ok ksJ6_ok xGs_nil (Or.inr rfl) xcal_nil ?_ ?_
  · rintro av σ ⟨x, rfl, hpre⟩
    exact Nat.le_of_ble_eq_true rfl
  rintro av σ ⟨x, rfl, hp1⟩ Rt hR
  refine xgo0 44 ?_
  simp (config := {maxSteps := 2000000}) only [xwp_2, xwp_0, xwp_1, xws_s, xdd_o, xld_0, xld_s, xs1_0, xs1_1, xs1_s, xs2_0, xs2_1, xs2_s, xlg_n, xlg_i, xlg_r, xlg_z, xlg_l, xf4_0, xf4_1, xf4_2, xf4_3, xgo_e, xcmp_eq, xcmp_ne, xcmp_lt, xcmp_ge, xcmp_gt, xcmp_le, xfg_0, xfg_1, xfg_2, xfg_3, xfg_4, xpop_0, xpop_s, xsw_n, xsw_c, xtb_n, xtb_c, xenp_n, xenp_i, xenp_r, xenp_z, xenp_l, xrep_0, xrep_s, Nat.reduceSub, true_and, and_true, cat_i, cat_r, Nat.reduceAdd, Nat.reduceLT, Nat.reduceLeDiff, Nat.reduceEqDiff, xnc, Int.reduceAdd, Int.reduceSub, Int.reduceNeg, Int.reduceLE, Int.reduceLT, Int.reduceToNat, ↓reduceIte, List.length_cons, List.length_nil, xlc0, xlc1, ite_10, i10, i01, i0_2, i0_3, i0_4, i0_6, i0_7, i0_8, i0_49, i0_10, or_true, true_or, or_false, false_or, not_false_eq_true, not_true_eq_false, xnt, xI_g, eq_self, xI_2, xJ_1, false_and, and_false, obT_t, obS_t, ob6_t, ob2_t, ob0_t, kT1_t, kT2_t, kT3_t, kT4_t, lT1, lT2, rT6, rT7, rT8, rT9, rT1i, rT2i, rS2, kSe_t, lSe, r0_0, r0_1, r0_2, r0_3, r0_4, r0_5, r0_6, r0_7, r0_8, r0_9, r1_i, r2_4, r2_5, r4_4, a1_t, a3_t, a5_t, a6_t, a7_t, a8_t, l1, l3, l5, l6, l7, l8, T1, T2, T3, T4, nI8, nI6, nI160, nI20, nI401, nI49, ob5_t, ob1_t, vp_tn, tn_def, lgc, dJ6_bitCount_0f7a4_0, st_iload_n, dJ6_bitCount_0f7a4_1, dJ6_bitCount_0f7a4_2, st_iconst, dJ6_bitCount_0f7a4_3, st_iushr, dJ6_bitCount_0f7a4_4, st_ldc_w, ks_J6_265, dJ6_bitCount_0f7a4_7, st_iand, dJ6_bitCount_0f7a4_8, st_isub, dJ6_bitCount_0f7a4_9, st_istore_n, dJ6_bitCount_0f7a4_10, dJ6_bitCount_0f7a4_11, ks_J6_266, dJ6_bitCount_0f7a4_14, dJ6_bitCount_0f7a4_15, dJ6_bitCount_0f7a4_16, dJ6_bitCount_0f7a4_17, dJ6_bitCount_0f7a4_18, dJ6_bitCount_0f7a4_21, dJ6_bitCount_0f7a4_22, st_iadd, dJ6_bitCount_0f7a4_23, dJ6_bitCount_0f7a4_24, dJ6_bitCount_0f7a4_25, dJ6_bitCount_0f7a4_26, dJ6_bitCount_0f7a4_27, dJ6_bitCount_0f7a4_28, dJ6_bitCount_0f7a4_29, ks_J6_267, dJ6_bitCount_0f7a4_32, dJ6_bitCount_0f7a4_33, dJ6_bitCount_0f7a4_34, dJ6_bitCount_0f7a4_35, dJ6_bitCount_0f7a4_36, st_bipush, dJ6_bitCount_0f7a4_38, dJ6_bitCount_0f7a4_39, dJ6_bitCount_0f7a4_40, dJ6_bitCount_0f7a4_41, dJ6_bitCount_0f7a4_42, dJ6_bitCount_0f7a4_43, dJ6_bitCount_0f7a4_45, dJ6_bitCount_0f7a4_46, dJ6_bitCount_0f7a4_47, dJ6_bitCount_0f7a4_48, dJ6_bitCount_0f7a4_49, dJ6_bitCount_0f7a4_51, dJ6_bitCount_0f7a4_52, st_ireturn, ofI_1, ofI_2, ofI_4, ofI_8, ofI_16, ofI_63, hp1]
  simp only [hR, fJ6_bitCount_0f7a4_e, bc32, bcA, bcB, bcC, bcD, bcE, and_true]
def pJ13_bitCount_95d88 (as : List Value) (σ : xS) : Prop := ∃ (x : Int64), as = [.long x] ∧ (True)
def fJ13_bitCount_95d88 (as : List Value) (σ : xS) : Option Value × xS := match as with
  | [.long x] => (some (.int (bc64 x)), σ)
  | _ => (none, σ)
theorem pJ13_bitCount_95d88_e {x : Int64} {σ : xS} : pJ13_bitCount_95d88 [.long x] σ = (True) := propext ⟨fun h => by obtain ⟨x, e, h⟩ := h; cases e; exact h, fun h => ⟨x, rfl, h⟩⟩
theorem fJ13_bitCount_95d88_e {x : Int64} {σ : xS} : fJ13_bitCount_95d88 [.long x] σ = (some (.int (bc64 x)), σ) := rfl
def calJ13_bitCount_95d88 : List (Nat × xCall) := []
set_option maxHeartbeats 4000000 in
set_option maxRecDepth 100000 in
theorem mJ13_bitCount_95d88 : xMet WX yJ13_bitCount_95d88 cJ13_bitCount_95d88 2 (some .int) 1 pJ13_bitCount_95d88 fJ13_bitCount_95d88 := by
  refine xMet_of (fld := xlk fldJ13) (cal := xlk calJ13_bitCount_95d88) (ks := xlk ksJ13) (gs := xlk []) (ro := fun _ => none) 0 (by decide) WX_nd rfl fldJ13_ok ksJ13_ok xGs_nil (Or.inr rfl) xcal_nil ?_ ?_
  · rintro av σ ⟨x, rfl, hpre⟩
    exact Nat.le_of_ble_eq_true rfl
  rintro av σ ⟨x, rfl, hp1⟩ Rt hR
  refine xgo0 51 ?_
  simp (config := {maxSteps := 2000000}) only [xwp_2, xwp_0, xwp_1, xws_s, xdd_o, xld_0, xld_s, xs1_0, xs1_1, xs1_s, xs2_0, xs2_1, xs2_s, xlg_n, xlg_i, xlg_r, xlg_z, xlg_l, xf4_0, xf4_1, xf4_2, xf4_3, xgo_e, xcmp_eq, xcmp_ne, xcmp_lt, xcmp_ge, xcmp_gt, xcmp_le, xfg_0, xfg_1, xfg_2, xfg_3, xfg_4, xpop_0, xpop_s, xsw_n, xsw_c, xtb_n, xtb_c, xenp_n, xenp_i, xenp_r, xenp_z, xenp_l, xrep_0, xrep_s, Nat.reduceSub, true_and, and_true, cat_i, cat_r, Nat.reduceAdd, Nat.reduceLT, Nat.reduceLeDiff, Nat.reduceEqDiff, xnc, Int.reduceAdd, Int.reduceSub, Int.reduceNeg, Int.reduceLE, Int.reduceLT, Int.reduceToNat, ↓reduceIte, List.length_cons, List.length_nil, xlc0, xlc1, ite_10, i10, i01, i0_2, i0_3, i0_4, i0_6, i0_7, i0_8, i0_49, i0_10, or_true, true_or, or_false, false_or, not_false_eq_true, not_true_eq_false, xnt, xI_g, eq_self, xI_2, xJ_1, false_and, and_false, obT_t, obS_t, ob6_t, ob2_t, ob0_t, kT1_t, kT2_t, kT3_t, kT4_t, lT1, lT2, rT6, rT7, rT8, rT9, rT1i, rT2i, rS2, kSe_t, lSe, r0_0, r0_1, r0_2, r0_3, r0_4, r0_5, r0_6, r0_7, r0_8, r0_9, r1_i, r2_4, r2_5, r4_4, a1_t, a3_t, a5_t, a6_t, a7_t, a8_t, l1, l3, l5, l6, l7, l8, T1, T2, T3, T4, nI8, nI6, nI160, nI20, nI401, nI49, ob5_t, ob1_t, vp_tn, tn_def, lgc, dJ13_bitCount_95d88_0, st_lload_n, dJ13_bitCount_95d88_1, dJ13_bitCount_95d88_2, st_iconst, dJ13_bitCount_95d88_3, st_lushr, dJ13_bitCount_95d88_4, st_ldc2_w, ks_J13_314, dJ13_bitCount_95d88_7, st_land, dJ13_bitCount_95d88_8, st_lsub, dJ13_bitCount_95d88_9, st_lstore_n, dJ13_bitCount_95d88_10, dJ13_bitCount_95d88_11, ks_J13_316, dJ13_bitCount_95d88_14, dJ13_bitCount_95d88_15, dJ13_bitCount_95d88_16, dJ13_bitCount_95d88_17, dJ13_bitCount_95d88_18, dJ13_bitCount_95d88_21, dJ13_bitCount_95d88_22, st_ladd, dJ13_bitCount_95d88_23, dJ13_bitCount_95d88_24, dJ13_bitCount_95d88_25, dJ13_bitCount_95d88_26, dJ13_bitCount_95d88_27, dJ13_bitCount_95d88_28, dJ13_bitCount_95d88_29, ks_J13_318, dJ13_bitCount_95d88_32, dJ13_bitCount_95d88_33, dJ13_bitCount_95d88_34, dJ13_bitCount_95d88_35, dJ13_bitCount_95d88_36, st_bipush, dJ13_bitCount_95d88_38, dJ13_bitCount_95d88_39, dJ13_bitCount_95d88_40, dJ13_bitCount_95d88_41, dJ13_bitCount_95d88_42, dJ13_bitCount_95d88_43, dJ13_bitCount_95d88_45, dJ13_bitCount_95d88_46, dJ13_bitCount_95d88_47, dJ13_bitCount_95d88_48, dJ13_bitCount_95d88_49, dJ13_bitCount_95d88_50, dJ13_bitCount_95d88_52, dJ13_bitCount_95d88_53, dJ13_bitCount_95d88_54, dJ13_bitCount_95d88_55, dJ13_bitCount_95d88_56, st_l2i, dJ13_bitCount_95d88_57, dJ13_bitCount_95d88_59, st_iand, dJ13_bitCount_95d88_60, st_ireturn, ofI_1, ofI_2, ofI_4, ofI_8, ofI_16, ofI_32, ofI_127, hp1]
  simp only [hR, fJ13_bitCount_95d88_e, bc64, blA, blB, blC, blD, blE, blF, and_true]
def gbX (B : Nat) : Nat → xS → xS
  | 0, σ => σ
  | i + 1, σ => beatX B (gbX B i σ)
def mbX (B : Nat) : Nat → xS → Int32
  | 0, _ => 0
  | i + 1, σ => mbX B i σ + metX B (gbX B i σ)
theorem beatX_B {B b : Nat} {σ : xS} : (beatX B σ).1 B b = σ.1 B b := beatX_o (fun j hj => by omega)
theorem gbX_o {B a b : Nat} {σ : xS} (h : ∀ j, a ≠ B + 20 + j) : ∀ {i : Nat}, (gbX B i σ).1 a b = σ.1 a b
  | 0 => rfl
  | i + 1 => by rw [gbX, beatX_o (fun j _ => h j)]; exact gbX_o h
theorem gbX_B {B b i : Nat} {σ : xS} : (gbX B i σ).1 B b = σ.1 B b := gbX_o (fun j => by omega)
theorem gbX_2 {B : Nat} {σ : xS} : ∀ {i : Nat}, (gbX B i σ).2 = σ.2
  | 0 => rfl
  | i + 1 => by rw [gbX, beatX_2]; exact gbX_2
/-- n beats, and their count -/
def gbsX (B : Nat) (n : Int32) (σ : xS) : xS := xI (xI (gbX B (tn n) σ) B 3 (σ.1 B 3 + n)) B 4 (σ.1 B 4 + mbX B (tn n) σ)
def pX4_goBeats (as : List Value) (σ : xS) : Prop := ∃ (B : Nat) (n : Int32), as = [.ref B, .int n] ∧ ((xTw B) ∧ (σ.1 B 2 ≤ 6) ∧ (0 ≤ σ.1 B 2))
def fX4_goBeats (as : List Value) (σ : xS) : Option Value × xS := match as with
  | [.ref B, .int n] => (some (.int (mbX B (tn n) σ)), gbsX B n σ)
  | _ => (none, σ)
theorem pX4_goBeats_e {B : Nat} {n : Int32} {σ : xS} : pX4_goBeats [.ref B, .int n] σ = ((xTw B) ∧ (σ.1 B 2 ≤ 6) ∧ (0 ≤ σ.1 B 2)) := propext ⟨fun h => by obtain ⟨B, n, e, h⟩ := h; cases e; exact h, fun h => ⟨B, n, rfl, h⟩⟩
theorem fX4_goBeats_e {B : Nat} {n : Int32} {σ : xS} : fX4_goBeats [.ref B, .int n] σ = (some (.int (mbX B (tn n) σ)), gbsX B n σ) := rfl
def calX4_goBeats : List (Nat × xCall) := [(135, (false, 1, pX4_goBeat, fX4_goBeat))]
theorem c_X4_goBeats_135 : xlk calX4_goBeats 135 = some (false, 1, pX4_goBeat, fX4_goBeat) := rfl
set_option maxHeartbeats 4000000 in
set_option maxRecDepth 100000 in
theorem mX4_goBeats : xMet WX yX4_goBeats cX4_goBeats 4 (some .int) 5 pX4_goBeats fX4_goBeats := by
  refine xMet_of (fld := xlk fldX4) (cal := xlk calX4_goBeats) (ks := xlk []) (gs := xlk []) (ro := fun _ => none) 0 (by decide) WX_nd rfl fldX4_ok xKs_nil xGs_nil (Or.inr rfl) (xcal_cons (xCk_V mX4_goBeat 4 (by decide) (by decide) (by decide) rfl (fun as σ h _ => rX4_goBeat as σ h) w_X4_135 ⟨by decide, by decide, by decide +kernel⟩) xcal_nil) ?_ ?_
  · rintro av σ ⟨B, n, rfl, hpre⟩
    exact Nat.le_of_ble_eq_true rfl
  rintro av σ ⟨B, n, rfl, ⟨hp1, hp2, hp3⟩⟩ Rt hR
  refine xfor0 4 (tn n) 60 20 (fun i => [some (.ref B), some (.int n), some (.int (mbX B i σ)), some (.int (nI i))]) (fun i => gbX B i σ) (fun i => True) (trivial) (fun i hi hH => ?_) ?_
  · simp only [xwp_2, xwp_0, xwp_1, xws_s, xdd_o, xld_0, xld_s, xs1_0, xs1_1, xs1_s, xs2_0, xs2_1, xs2_s, xlg_n, xlg_i, xlg_r, xlg_z, xlg_l, xf4_0, xf4_1, xf4_2, xf4_3, xgo_e, xcmp_eq, xcmp_ne, xcmp_lt, xcmp_ge, xcmp_gt, xcmp_le, xfg_0, xfg_1, xfg_2, xfg_3, xfg_4, xpop_0, xpop_s, xsw_n, xsw_c, xtb_n, xtb_c, xenp_n, xenp_i, xenp_r, xenp_z, xenp_l, xrep_0, xrep_s, Nat.reduceSub, true_and, and_true, cat_i, cat_r, Nat.reduceAdd, Nat.reduceLT, Nat.reduceLeDiff, Nat.reduceEqDiff, xnc, Int.reduceAdd, Int.reduceSub, Int.reduceNeg, Int.reduceLE, Int.reduceLT, Int.reduceToNat, ↓reduceIte, List.length_cons, List.length_nil, xlc0, xlc1, ite_10, i10, i01, i0_2, i0_3, i0_4, i0_6, i0_7, i0_8, i0_49, i0_10, or_true, true_or, or_false, false_or, not_false_eq_true, not_true_eq_false, xnt, xI_g, eq_self, xI_2, xJ_1, false_and, and_false, obT_t, obS_t, ob6_t, ob2_t, ob0_t, kT1_t, kT2_t, kT3_t, kT4_t, lT1, lT2, rT6, rT7, rT8, rT9, rT1i, rT2i, rS2, kSe_t, lSe, r0_0, r0_1, r0_2, r0_3, r0_4, r0_5, r0_6, r0_7, r0_8, r0_9, r1_i, r2_4, r2_5, r4_4, a1_t, a3_t, a5_t, a6_t, a7_t, a8_t, l1, l3, l5, l6, l7, l8, T1, T2, T3, T4, nI8, nI6, nI160, nI20, nI401, nI49, ob5_t, ob1_t, vp_tn, tn_def, lgc, dX4_goBeats_0, st_iconst, dX4_goBeats_1, st_istore_n, dX4_goBeats_2, dX4_goBeats_3, dX4_goBeats_4, st_iload_n, dX4_goBeats_5, dX4_goBeats_6, st_if_icmp, dX4_goBeats_9, dX4_goBeats_10, st_aload_n, dX4_goBeats_11, st_invokevirtual, dX4_goBeats_14, st_iadd, dX4_goBeats_15, dX4_goBeats_16, st_iinc, dX4_goBeats_19, st_goto, dX4_goBeats_22, dX4_goBeats_23, st_dup, dX4_goBeats_24, st_getfield, fl_X4_22, dX4_goBeats_27, dX4_goBeats_28, dX4_goBeats_29, st_putfield, dX4_goBeats_32, dX4_goBeats_33, dX4_goBeats_34, fl_X4_25, dX4_goBeats_37, dX4_goBeats_38, dX4_goBeats_39, dX4_goBeats_42, dX4_goBeats_43, st_ireturn, c_X4_goBeats_135, pX4_goBeat_e, fX4_goBeat_e, Option.toList_some, Option.toList_none, List.cons_append, List.nil_append, ofI_0, ofI_1, hp1, hp2, hp3]
    have hc := le_nI_tn (i := i) (x := n) hi
    simp only [gbX_B, hp2, hp3, true_and]
    refine ⟨fun h => ?_, fun h => ?_⟩
    · have hn : i = tn n := by rw [hc] at h; omega
      rw [hR, fX4_goBeats_e, gbsX, ← hn]
      exact ⟨rfl, rfl⟩
    · have hn : i < tn n := by rw [hc] at h; omega
      rw [nI_1]
      exact ⟨hn, rfl, rfl⟩
  · simp only [xwp_2, xwp_0, xwp_1, xws_s, xdd_o, xld_0, xld_s, xs1_0, xs1_1, xs1_s, xs2_0, xs2_1, xs2_s, xlg_n, xlg_i, xlg_r, xlg_z, xlg_l, xf4_0, xf4_1, xf4_2, xf4_3, xgo_e, xcmp_eq, xcmp_ne, xcmp_lt, xcmp_ge, xcmp_gt, xcmp_le, xfg_0, xfg_1, xfg_2, xfg_3, xfg_4, xpop_0, xpop_s, xsw_n, xsw_c, xtb_n, xtb_c, xenp_n, xenp_i, xenp_r, xenp_z, xenp_l, xrep_0, xrep_s, Nat.reduceSub, true_and, and_true, cat_i, cat_r, Nat.reduceAdd, Nat.reduceLT, Nat.reduceLeDiff, Nat.reduceEqDiff, xnc, Int.reduceAdd, Int.reduceSub, Int.reduceNeg, Int.reduceLE, Int.reduceLT, Int.reduceToNat, ↓reduceIte, List.length_cons, List.length_nil, xlc0, xlc1, ite_10, i10, i01, i0_2, i0_3, i0_4, i0_6, i0_7, i0_8, i0_49, i0_10, or_true, true_or, or_false, false_or, not_false_eq_true, not_true_eq_false, xnt, xI_g, eq_self, xI_2, xJ_1, false_and, and_false, obT_t, obS_t, ob6_t, ob2_t, ob0_t, kT1_t, kT2_t, kT3_t, kT4_t, lT1, lT2, rT6, rT7, rT8, rT9, rT1i, rT2i, rS2, kSe_t, lSe, r0_0, r0_1, r0_2, r0_3, r0_4, r0_5, r0_6, r0_7, r0_8, r0_9, r1_i, r2_4, r2_5, r4_4, a1_t, a3_t, a5_t, a6_t, a7_t, a8_t, l1, l3, l5, l6, l7, l8, T1, T2, T3, T4, nI8, nI6, nI160, nI20, nI401, nI49, ob5_t, ob1_t, vp_tn, tn_def, lgc, dX4_goBeats_0, st_iconst, dX4_goBeats_1, st_istore_n, dX4_goBeats_2, dX4_goBeats_3, dX4_goBeats_4, st_iload_n, dX4_goBeats_5, dX4_goBeats_6, st_if_icmp, dX4_goBeats_9, dX4_goBeats_10, st_aload_n, dX4_goBeats_11, st_invokevirtual, dX4_goBeats_14, st_iadd, dX4_goBeats_15, dX4_goBeats_16, st_iinc, dX4_goBeats_19, st_goto, dX4_goBeats_22, dX4_goBeats_23, st_dup, dX4_goBeats_24, st_getfield, fl_X4_22, dX4_goBeats_27, dX4_goBeats_28, dX4_goBeats_29, st_putfield, dX4_goBeats_32, dX4_goBeats_33, dX4_goBeats_34, fl_X4_25, dX4_goBeats_37, dX4_goBeats_38, dX4_goBeats_39, dX4_goBeats_42, dX4_goBeats_43, st_ireturn, c_X4_goBeats_135, pX4_goBeat_e, fX4_goBeat_e, Option.toList_some, Option.toList_none, List.cons_append, List.nil_append, ofI_0, ofI_1, hp1, hp2, hp3]
    first | exact rfl | exact ⟨rfl, rfl⟩ | trivial
theorem rX4_goBeats : ∀ as σ, pX4_goBeats as σ → ∃ K as', as = .ref K :: as' ∧ xob WX K 4 := by
  rintro as σ ⟨B, n, rfl, hpre⟩
  exact ⟨_, _, rfl, by first | exact hpre | exact hpre.1 | exact obT hpre | exact obT hpre.1 | exact obS hpre | exact obS hpre.1 | exact obM | exact ob6 | exact ob2 | exact ob0⟩
/-- the seed behind a draw, and what was drawn -/
def sdN (s : Int32) : Int32 := s * 1103515245 + 12345
def drN (s b : Int32) : Int32 := if 0 < b then xrem (xushr (sdN s) 16) b else 0
def drS (B : Nat) (σ : xS) : xS := xI σ B 5 (sdN (σ.1 B 5))
def pX4_draw (as : List Value) (σ : xS) : Prop := ∃ (B : Nat) (b : Int32), as = [.ref B, .int b] ∧ (xTw B)
def fX4_draw (as : List Value) (σ : xS) : Option Value × xS := match as with
  | [.ref B, .int b] => (some (.int (drN (σ.1 B 5) b)), drS B σ)
  | _ => (none, σ)
theorem pX4_draw_e {B : Nat} {b : Int32} {σ : xS} : pX4_draw [.ref B, .int b] σ = (xTw B) := propext ⟨fun h => by obtain ⟨B, b, e, h⟩ := h; cases e; exact h, fun h => ⟨B, b, rfl, h⟩⟩
theorem fX4_draw_e {B : Nat} {b : Int32} {σ : xS} : fX4_draw [.ref B, .int b] σ = (some (.int (drN (σ.1 B 5) b)), drS B σ) := rfl
def calX4_draw : List (Nat × xCall) := []
set_option maxHeartbeats 4000000 in
set_option maxRecDepth 100000 in
theorem mX4_draw : xMet WX yX4_draw cX4_draw 2 (some .int) 1 pX4_draw fX4_draw := by
  refine xMet_of (fld := xlk fldX4) (cal := xlk calX4_draw) (ks := xlk ksX4) (gs := xlk []) (ro := fun _ => none) 0 (by decide) WX_nd rfl fldX4_ok ksX4_ok xGs_nil (Or.inr rfl) xcal_nil ?_ ?_
  · rintro av σ ⟨B, b, rfl, hpre⟩
    exact Nat.le_of_ble_eq_true rfl
  rintro av σ ⟨B, b, rfl, hp1⟩ Rt hR
  refine xgo0 21 ?_
  simp (config := {maxSteps := 2000000}) only [xwp_2, xwp_0, xwp_1, xws_s, xdd_o, xld_0, xld_s, xs1_0, xs1_1, xs1_s, xs2_0, xs2_1, xs2_s, xlg_n, xlg_i, xlg_r, xlg_z, xlg_l, xf4_0, xf4_1, xf4_2, xf4_3, xgo_e, xcmp_eq, xcmp_ne, xcmp_lt, xcmp_ge, xcmp_gt, xcmp_le, xfg_0, xfg_1, xfg_2, xfg_3, xfg_4, xpop_0, xpop_s, xsw_n, xsw_c, xtb_n, xtb_c, xenp_n, xenp_i, xenp_r, xenp_z, xenp_l, xrep_0, xrep_s, Nat.reduceSub, true_and, and_true, cat_i, cat_r, Nat.reduceAdd, Nat.reduceLT, Nat.reduceLeDiff, Nat.reduceEqDiff, xnc, Int.reduceAdd, Int.reduceSub, Int.reduceNeg, Int.reduceLE, Int.reduceLT, Int.reduceToNat, ↓reduceIte, List.length_cons, List.length_nil, xlc0, xlc1, ite_10, i10, i01, i0_2, i0_3, i0_4, i0_6, i0_7, i0_8, i0_49, i0_10, or_true, true_or, or_false, false_or, not_false_eq_true, not_true_eq_false, xnt, xI_g, eq_self, xI_2, xJ_1, false_and, and_false, obT_t, obS_t, ob6_t, ob2_t, ob0_t, kT1_t, kT2_t, kT3_t, kT4_t, lT1, lT2, rT6, rT7, rT8, rT9, rT1i, rT2i, rS2, kSe_t, lSe, r0_0, r0_1, r0_2, r0_3, r0_4, r0_5, r0_6, r0_7, r0_8, r0_9, r1_i, r2_4, r2_5, r4_4, a1_t, a3_t, a5_t, a6_t, a7_t, a8_t, l1, l3, l5, l6, l7, l8, T1, T2, T3, T4, nI8, nI6, nI160, nI20, nI401, nI49, ob5_t, ob1_t, vp_tn, tn_def, lgc, dX4_draw_0, st_aload_n, dX4_draw_1, dX4_draw_2, st_getfield, fl_X4_28, dX4_draw_5, st_ldc, ks_X4_198, dX4_draw_7, st_imul, dX4_draw_8, st_sipush, dX4_draw_11, st_iadd, dX4_draw_12, st_putfield, dX4_draw_15, st_iload_n, dX4_draw_16, st_ifCond, dX4_draw_19, dX4_draw_20, dX4_draw_23, st_bipush, dX4_draw_25, st_iushr, dX4_draw_26, dX4_draw_27, st_irem, dX4_draw_28, st_goto, dX4_draw_31, st_iconst, dX4_draw_32, st_ireturn, ofI_12345, ofI_16, ofI_0, hp1]
  simp only [hR, fX4_draw_e, drN, sdN, drS]
  all_goals grind
theorem rX4_draw : ∀ as σ, pX4_draw as σ → ∃ K as', as = .ref K :: as' ∧ xob WX K 4 := by
  rintro as σ ⟨B, b, rfl, hpre⟩
  exact ⟨_, _, rfl, by first | exact hpre | exact hpre.1 | exact obT hpre | exact obT hpre.1 | exact obS hpre | exact obS hpre.1 | exact obM | exact ob6 | exact ob2 | exact ob0⟩
def sdI (B : Nat) : Nat → xS → xS
  | 0, σ => σ
  | i + 1, σ => drS B (sdI B i σ)
theorem drS_o {B a b : Nat} {σ : xS} (h : a ≠ B ∨ b ≠ 5) : (drS B σ).1 a b = σ.1 a b := by
  unfold drS
  exact xI_n (fun q => by rcases h with h | h; exact h q.1; exact h q.2)
theorem sdI_o {B a b : Nat} {σ : xS} (h : a ≠ B ∨ b ≠ 5) : ∀ {i : Nat}, (sdI B i σ).1 a b = σ.1 a b
  | 0 => rfl
  | i + 1 => by rw [sdI, drS_o h]; exact sdI_o h
theorem sdI_2 {B : Nat} {σ : xS} : ∀ {i : Nat}, (sdI B i σ).2 = σ.2
  | 0 => rfl
  | i + 1 => by rw [sdI]; exact sdI_2
/-- the place of draw i -/
def dpl (B : Nat) (σ : xS) (i : Nat) : Int32 := drN ((sdI B i σ).1 B 5) 49
def frX (B : Nat) (σ : xS) (p : Int32) : Prop := ¬ (xlushr (σ.2 B 0) p &&& 1 = 1) ∧ xany (fun i => decide (σ.1 (B + 20 + i) 1 = p)) (tn (σ.1 B 2)) = false
def dfr (B : Nat) (σ : xS) (i : Nat) : Bool := decide (¬ (xlushr (σ.2 B 0) (dpl B σ i) &&& 1 = 1) ∧ xany (fun j => decide (σ.1 (B + 20 + j) 1 = dpl B σ i)) (tn (σ.1 B 2)) = false)
/-- a stranger, at the place of draw i -/
def strX (B : Nat) (σ : xS) (i : Nat) : xS := addW (drS B (drS B (sdI B (i + 1) σ))) B (B + 20 + tn (σ.1 B 2)) 0 (dpl B σ i) (drN ((sdI B (i + 1) σ).1 B 5) 4) (drN ((drS B (sdI B (i + 1) σ)).1 B 5) (σ.1 B 1)) 0
def dlo (B : Nat) (σ : xS) : Nat → Option Value
  | 0 => none
  | i + 1 => some (.int (dpl B σ i))
theorem lt6_le6 {x : Int32} (h : x < 6) : x ≤ 6 := Int32.le_of_lt h
def pX4_drawStranger (as : List Value) (σ : xS) : Prop := ∃ (B : Nat), as = [.ref B] ∧ ((xTw B) ∧ (0 ≤ σ.1 B 2) ∧ (σ.1 B 2 < 6))
def fX4_drawStranger (as : List Value) (σ : xS) : Option Value × xS := match as with
  | [.ref B] => (some (.int (if xfs (dfr B σ) 100 < 100 then 1 else 0)), if xfs (dfr B σ) 100 < 100 then strX B σ (xfs (dfr B σ) 100) else sdI B 100 σ)
  | _ => (none, σ)
theorem pX4_drawStranger_e {B : Nat} {σ : xS} : pX4_drawStranger [.ref B] σ = ((xTw B) ∧ (0 ≤ σ.1 B 2) ∧ (σ.1 B 2 < 6)) := propext ⟨fun h => by obtain ⟨B, e, h⟩ := h; cases e; exact h, fun h => ⟨B, rfl, h⟩⟩
theorem fX4_drawStranger_e {B : Nat} {σ : xS} : fX4_drawStranger [.ref B] σ = (some (.int (if xfs (dfr B σ) 100 < 100 then 1 else 0)), if xfs (dfr B σ) 100 < 100 then strX B σ (xfs (dfr B σ) 100) else sdI B 100 σ) := rfl
def calX4_drawStranger : List (Nat × xCall) := [(188, (false, 2, pX4_draw, fX4_draw)), (191, (false, 2, pX4_isFree, fX4_isFree)), (194, (false, 6, pX4_addWalker, fX4_addWalker))]
theorem c_X4_drawStranger_188 : xlk calX4_drawStranger 188 = some (false, 2, pX4_draw, fX4_draw) := rfl
theorem c_X4_drawStranger_191 : xlk calX4_drawStranger 191 = some (false, 2, pX4_isFree, fX4_isFree) := rfl
theorem c_X4_drawStranger_194 : xlk calX4_drawStranger 194 = some (false, 6, pX4_addWalker, fX4_addWalker) := rfl
set_option maxHeartbeats 4000000 in
set_option maxRecDepth 100000 in
theorem mX4_drawStranger : xMet WX yX4_drawStranger cX4_drawStranger 4 (some .boolean) 4 pX4_drawStranger fX4_drawStranger := by
  refine xMet_of (fld := xlk fldX4) (cal := xlk calX4_drawStranger) (ks := xlk []) (gs := xlk []) (ro := fun _ => none) 1 (by decide) WX_nd rfl fldX4_ok xKs_nil xGs_nil (Or.inr rfl) (xcal_cons (xCk_V mX4_draw 4 (by decide) (by decide) (by decide) rfl (fun as σ h _ => rX4_draw as σ h) w_X4_188 ⟨by decide, by decide, by decide +kernel⟩) (xcal_cons (xCk_V mX4_isFree 4 (by decide) (by decide) (by decide) rfl (fun as σ h _ => rX4_isFree as σ h) w_X4_191 ⟨by decide, by decide, by decide +kernel⟩) (xcal_cons (xCk_V mX4_addWalker 4 (by decide) (by decide) (by decide) rfl (fun as σ h _ => rX4_addWalker as σ h) w_X4_194 ⟨by decide, by decide, by decide +kernel⟩) xcal_nil))) ?_ ?_
  · rintro av σ ⟨B, rfl, hpre⟩
    exact Nat.le_of_ble_eq_true rfl
  rintro av σ ⟨B, rfl, ⟨hp1, hp2, hp3⟩⟩ Rt hR
  have hk6 := lt6_le6 hp3
  refine xfor0 2 (100) 70 20 (fun i => [some (.ref B), some (.int (nI i)), dlo B σ i, none]) (fun i => sdI B i σ) (fun i => ∀ j, j < i → dfr B σ j = false) (fun j hj => by omega) (fun i hi hH => ?_) ?_
  · simp only [xwp_2, xwp_0, xwp_1, xws_s, xdd_o, xld_0, xld_s, xs1_0, xs1_1, xs1_s, xs2_0, xs2_1, xs2_s, xlg_n, xlg_i, xlg_r, xlg_z, xlg_l, xf4_0, xf4_1, xf4_2, xf4_3, xgo_e, xcmp_eq, xcmp_ne, xcmp_lt, xcmp_ge, xcmp_gt, xcmp_le, xfg_0, xfg_1, xfg_2, xfg_3, xfg_4, xpop_0, xpop_s, xsw_n, xsw_c, xtb_n, xtb_c, xenp_n, xenp_i, xenp_r, xenp_z, xenp_l, xrep_0, xrep_s, Nat.reduceSub, true_and, and_true, cat_i, cat_r, Nat.reduceAdd, Nat.reduceLT, Nat.reduceLeDiff, Nat.reduceEqDiff, xnc, Int.reduceAdd, Int.reduceSub, Int.reduceNeg, Int.reduceLE, Int.reduceLT, Int.reduceToNat, ↓reduceIte, List.length_cons, List.length_nil, xlc0, xlc1, ite_10, i10, i01, i0_2, i0_3, i0_4, i0_6, i0_7, i0_8, i0_49, i0_10, or_true, true_or, or_false, false_or, not_false_eq_true, not_true_eq_false, xnt, xI_g, eq_self, xI_2, xJ_1, false_and, and_false, obT_t, obS_t, ob6_t, ob2_t, ob0_t, kT1_t, kT2_t, kT3_t, kT4_t, lT1, lT2, rT6, rT7, rT8, rT9, rT1i, rT2i, rS2, kSe_t, lSe, r0_0, r0_1, r0_2, r0_3, r0_4, r0_5, r0_6, r0_7, r0_8, r0_9, r1_i, r2_4, r2_5, r4_4, a1_t, a3_t, a5_t, a6_t, a7_t, a8_t, l1, l3, l5, l6, l7, l8, T1, T2, T3, T4, nI8, nI6, nI160, nI20, nI401, nI49, ob5_t, ob1_t, vp_tn, tn_def, lgc, dX4_drawStranger_0, st_iconst, dX4_drawStranger_1, st_istore_n, dX4_drawStranger_2, st_iload_n, dX4_drawStranger_3, st_bipush, dX4_drawStranger_5, st_if_icmp, dX4_drawStranger_8, st_aload_n, dX4_drawStranger_9, dX4_drawStranger_11, st_invokevirtual, dX4_drawStranger_14, dX4_drawStranger_15, dX4_drawStranger_16, dX4_drawStranger_17, dX4_drawStranger_20, st_ifCond, dX4_drawStranger_23, dX4_drawStranger_24, dX4_drawStranger_25, dX4_drawStranger_28, dX4_drawStranger_29, dX4_drawStranger_30, dX4_drawStranger_31, dX4_drawStranger_32, dX4_drawStranger_33, dX4_drawStranger_34, dX4_drawStranger_35, st_getfield, fl_X4_15, dX4_drawStranger_38, dX4_drawStranger_41, dX4_drawStranger_42, dX4_drawStranger_45, st_pop, dX4_drawStranger_46, dX4_drawStranger_47, st_ireturn, dX4_drawStranger_48, st_iinc, dX4_drawStranger_51, st_goto, dX4_drawStranger_54, dX4_drawStranger_55, c_X4_drawStranger_188, pX4_draw_e, fX4_draw_e, Option.toList_some, Option.toList_none, List.cons_append, List.nil_append, c_X4_drawStranger_191, pX4_isFree_e, fX4_isFree_e, c_X4_drawStranger_194, pX4_addWalker_e, fX4_addWalker_e, ofI_0, ofI_100, ofI_49, ofI_4, ofI_1, hp1, hp2, hp3]
    have hc : (100 : Int32) ≤ nI i ↔ 100 ≤ i := nI_leI (a := 100) (by omega) (by omega)
    have q5 : ∀ a b, a ≠ B ∨ b ≠ 5 → ∀ i, (sdI B i σ).1 a b = σ.1 a b := fun a b h i => sdI_o h
    have q2 : ∀ b, b ≠ 5 → ∀ i, (sdI B i σ).1 B b = σ.1 B b := fun b h i => sdI_o (Or.inr h)
    have qw : ∀ j b i, (sdI B i σ).1 (B + 20 + j) b = σ.1 (B + 20 + j) b := fun j b i => sdI_o (Or.inl (by omega))
    have ql : ∀ i, (sdI B i σ).2 = σ.2 := fun i => sdI_2
    have qd : ∀ i, drS B (sdI B i σ) = sdI B (i + 1) σ := fun i => rfl
    have qp : ∀ i, drN ((sdI B i σ).1 B 5) 49 = dpl B σ i := fun i => rfl
    have z2 : (2 : Nat) ≠ 5 := by decide
    have z1 : (1 : Nat) ≠ 5 := by decide
    simp only [qd, qp, q2 2 z2, q2 1 z1, qw, ql, hk6, hp2, hp3, true_and]
    refine ⟨fun h => ?_, fun h => ?_⟩
    · have hn : i = 100 := by rw [hc] at h; omega
      rw [hR, fX4_drawStranger_e, xfs_no (fun j hj => hH j (by omega)), if_neg (by decide), if_neg (by decide), hn]
      exact ⟨rfl, rfl⟩
    · have hn : i < 100 := by rw [hc] at h; omega
      have e1 : nI i + 1 = nI (i + 1) := nI_1 i
      have e2 : dlo B σ (i + 1) = some (.int (dpl B σ i)) := rfl
      have e3 : dfr B σ i = decide (¬ (xlushr (σ.2 B 0) (dpl B σ i) &&& 1 = 1) ∧ xany (fun j => decide (σ.1 (B + 20 + j) 1 = dpl B σ i)) (tn (σ.1 B 2)) = false) := rfl
      have cont : dfr B σ i = false → (∀ j, j < i + 1 → dfr B σ j = false) := fun h2 => xall_s hH h2
      have stop : dfr B σ i = true → Rt (some (.int 1)) (strX B σ i) := fun h2 => by
        have e4 : xfs (dfr B σ) 100 = i := xfs_at hn h2 hH
        rw [hR, fX4_drawStranger_e, e4, if_pos hn, if_pos hn]
        exact ⟨rfl, rfl⟩
      have e5 : strX B σ i = addW (sdI B (i + 3) σ) B (B + 20 + tn (σ.1 B 2)) 0 (dpl B σ i) (drN ((sdI B (i + 1) σ).1 B 5) 4) (drN ((sdI B (i + 2) σ).1 B 5) (σ.1 B 1)) 0 := rfl
      rw [e5] at stop
      rw [e1, e2]
      grind
  · simp only [xwp_2, xwp_0, xwp_1, xws_s, xdd_o, xld_0, xld_s, xs1_0, xs1_1, xs1_s, xs2_0, xs2_1, xs2_s, xlg_n, xlg_i, xlg_r, xlg_z, xlg_l, xf4_0, xf4_1, xf4_2, xf4_3, xgo_e, xcmp_eq, xcmp_ne, xcmp_lt, xcmp_ge, xcmp_gt, xcmp_le, xfg_0, xfg_1, xfg_2, xfg_3, xfg_4, xpop_0, xpop_s, xsw_n, xsw_c, xtb_n, xtb_c, xenp_n, xenp_i, xenp_r, xenp_z, xenp_l, xrep_0, xrep_s, Nat.reduceSub, true_and, and_true, cat_i, cat_r, Nat.reduceAdd, Nat.reduceLT, Nat.reduceLeDiff, Nat.reduceEqDiff, xnc, Int.reduceAdd, Int.reduceSub, Int.reduceNeg, Int.reduceLE, Int.reduceLT, Int.reduceToNat, ↓reduceIte, List.length_cons, List.length_nil, xlc0, xlc1, ite_10, i10, i01, i0_2, i0_3, i0_4, i0_6, i0_7, i0_8, i0_49, i0_10, or_true, true_or, or_false, false_or, not_false_eq_true, not_true_eq_false, xnt, xI_g, eq_self, xI_2, xJ_1, false_and, and_false, obT_t, obS_t, ob6_t, ob2_t, ob0_t, kT1_t, kT2_t, kT3_t, kT4_t, lT1, lT2, rT6, rT7, rT8, rT9, rT1i, rT2i, rS2, kSe_t, lSe, r0_0, r0_1, r0_2, r0_3, r0_4, r0_5, r0_6, r0_7, r0_8, r0_9, r1_i, r2_4, r2_5, r4_4, a1_t, a3_t, a5_t, a6_t, a7_t, a8_t, l1, l3, l5, l6, l7, l8, T1, T2, T3, T4, nI8, nI6, nI160, nI20, nI401, nI49, ob5_t, ob1_t, vp_tn, tn_def, lgc, dX4_drawStranger_0, st_iconst, dX4_drawStranger_1, st_istore_n, dX4_drawStranger_2, st_iload_n, dX4_drawStranger_3, st_bipush, dX4_drawStranger_5, st_if_icmp, dX4_drawStranger_8, st_aload_n, dX4_drawStranger_9, dX4_drawStranger_11, st_invokevirtual, dX4_drawStranger_14, dX4_drawStranger_15, dX4_drawStranger_16, dX4_drawStranger_17, dX4_drawStranger_20, st_ifCond, dX4_drawStranger_23, dX4_drawStranger_24, dX4_drawStranger_25, dX4_drawStranger_28, dX4_drawStranger_29, dX4_drawStranger_30, dX4_drawStranger_31, dX4_drawStranger_32, dX4_drawStranger_33, dX4_drawStranger_34, dX4_drawStranger_35, st_getfield, fl_X4_15, dX4_drawStranger_38, dX4_drawStranger_41, dX4_drawStranger_42, dX4_drawStranger_45, st_pop, dX4_drawStranger_46, dX4_drawStranger_47, st_ireturn, dX4_drawStranger_48, st_iinc, dX4_drawStranger_51, st_goto, dX4_drawStranger_54, dX4_drawStranger_55, c_X4_drawStranger_188, pX4_draw_e, fX4_draw_e, Option.toList_some, Option.toList_none, List.cons_append, List.nil_append, c_X4_drawStranger_191, pX4_isFree_e, fX4_isFree_e, c_X4_drawStranger_194, pX4_addWalker_e, fX4_addWalker_e, ofI_0, ofI_100, ofI_49, ofI_4, ofI_1, hp1, hp2, hp3]
    first | exact rfl | exact ⟨rfl, rfl⟩ | trivial
theorem rX4_drawStranger : ∀ as σ, pX4_drawStranger as σ → ∃ K as', as = .ref K :: as' ∧ xob WX K 4 := by
  rintro as σ ⟨B, rfl, hpre⟩
  exact ⟨_, _, rfl, by first | exact hpre | exact hpre.1 | exact obT hpre | exact obT hpre.1 | exact obS hpre | exact obS hpre.1 | exact obM | exact ob6 | exact ob2 | exact ob0⟩
