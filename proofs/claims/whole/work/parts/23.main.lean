/-- the number of an element -/
def nmA (σ : xS) (K : Nat) (i : Int32) : Int32 := (if 0 ≤ i ∧ i < σ.1 K 1 ∧ i < 160 then σ.2 (K + 10) (tn i) else 0).toInt32
theorem fX3_numberAt_n {K : Nat} {i : Int32} {σ : xS} : fX3_numberAt [.ref K, .int i] σ = (some (.int (nmA σ K i)), σ) := rfl
theorem sh8 {s : Int32} (h : 0 ≤ s ∧ s < 8) : xSh (10 + tn s) := by
  have h1 : s.toInt < 8 := by simpa using Int32.lt_iff_toInt_lt.mp h.2
  have h2 : tn s < 8 := by
    show s.toInt.toNat < 8
    omega
  exact ⟨by omega, by omega⟩
theorem tn8 {s : Int32} (h : 0 ≤ s ∧ s < 8) : tn s < 8 := by
  have h1 : s.toInt < 8 := by simpa using Int32.lt_iff_toInt_lt.mp h.2
  show s.toInt.toNat < 8
  omega
theorem sh_i {i : Nat} (h : i < 8) : xSh (10 + i) := ⟨by omega, by omega⟩
/-- what a walker says -/
def sayX (σ : xS) (B : Nat) (x k : Int32) : Int32 := if k = 1 then bc32 (xbits (fun i => decide (σ.1 (B + 20 + i) 3 = σ.1 (whoK B x) 3)) (tn (σ.1 B 2))) - 1 else if k = 2 then nOth σ B x 0 (tn (σ.1 B 2)) else if k = 3 then σ.1 (whoK B x) 4 else if k = 4 then σ.1 (whoK B x) 5 else if k = 5 then nOth σ B x 1 (tn (σ.1 B 2)) else if k = 6 then σ.1 B 1 - 1 - σ.1 (whoK B x) 3 else σ.1 (whoK B x) 3
def pX4_said (as : List Value) (σ : xS) : Prop := ∃ (B : Nat) (x : Int32) (k : Int32), as = [.ref B, .int x, .int k] ∧ ((xTw B) ∧ (σ.1 B 2 ≤ 6))
def fX4_said (as : List Value) (σ : xS) : Option Value × xS := match as with
  | [.ref B, .int x, .int k] => (some (.int (sayX σ B x k)), σ)
  | _ => (none, σ)
theorem pX4_said_e {B : Nat} {x : Int32} {k : Int32} {σ : xS} : pX4_said [.ref B, .int x, .int k] σ = ((xTw B) ∧ (σ.1 B 2 ≤ 6)) := propext ⟨fun h => by obtain ⟨B, x, k, e, h⟩ := h; cases e; exact h, fun h => ⟨B, x, k, rfl, h⟩⟩
theorem fX4_said_e {B : Nat} {x : Int32} {k : Int32} {σ : xS} : fX4_said [.ref B, .int x, .int k] σ = (some (.int (sayX σ B x k)), σ) := rfl
def calX4_said : List (Nat × xCall) := [(65, (false, 2, pX4_who, fX4_who)), (118, (false, 2, pX4_havers, fX4_havers)), (122, (true, 1, pJ6_bitCount_0f7a4, fJ6_bitCount_0f7a4)), (127, (false, 3, pX4_countOthers, fX4_countOthers))]
theorem c_X4_said_65 : xlk calX4_said 65 = some (false, 2, pX4_who, fX4_who) := rfl
theorem c_X4_said_118 : xlk calX4_said 118 = some (false, 2, pX4_havers, fX4_havers) := rfl
theorem c_X4_said_122 : xlk calX4_said 122 = some (true, 1, pJ6_bitCount_0f7a4, fJ6_bitCount_0f7a4) := rfl
theorem c_X4_said_127 : xlk calX4_said 127 = some (false, 3, pX4_countOthers, fX4_countOthers) := rfl
set_option maxHeartbeats 4000000 in
set_option maxRecDepth 100000 in
theorem mX4_said : xMet WX yX4_said cX4_said 4 (some .int) 4 pX4_said fX4_said := by
  refine xMet_of (fld := xlk fldX4) (cal := xlk calX4_said) (ks := xlk []) (gs := xlk []) (ro := fun _ => none) 0 (by decide) WX_nd rfl fldX4_ok xKs_nil xGs_nil (Or.inr rfl) (xcal_cons (xCk_V mX4_who 4 (by decide) (by decide) (by decide) rfl (fun as σ h _ => rX4_who as σ h) w_X4_65 ⟨by decide, by decide, by decide +kernel⟩) (xcal_cons (xCk_V mX4_havers 4 (by decide) (by decide) (by decide) rfl (fun as σ h _ => rX4_havers as σ h) w_X4_118 ⟨by decide, by decide, by decide +kernel⟩) (xcal_cons (xCk_S mJ6_bitCount_0f7a4 (by decide) (by decide) w_X4_122 ⟨by decide, by decide, by decide +kernel⟩) (xcal_cons (xCk_V mX4_countOthers 4 (by decide) (by decide) (by decide) rfl (fun as σ h _ => rX4_countOthers as σ h) w_X4_127 ⟨by decide, by decide, by decide +kernel⟩) xcal_nil)))) ?_ ?_
  · rintro av σ ⟨B, x, k, rfl, hpre⟩
    exact Nat.le_of_ble_eq_true rfl
  rintro av σ ⟨B, x, k, rfl, ⟨hp1, hp2⟩⟩ Rt hR
  refine xgo0 43 ?_
  simp (config := {maxSteps := 2000000}) only [xwp_2, xwp_0, xwp_1, xws_s, xdd_o, xld_0, xld_s, xs1_0, xs1_1, xs1_s, xs2_0, xs2_1, xs2_s, xlg_n, xlg_i, xlg_r, xlg_z, xlg_l, xf4_0, xf4_1, xf4_2, xf4_3, xgo_e, xcmp_eq, xcmp_ne, xcmp_lt, xcmp_ge, xcmp_gt, xcmp_le, xfg_0, xfg_1, xfg_2, xfg_3, xfg_4, xpop_0, xpop_s, xsw_n, xsw_c, xtb_n, xtb_c, xenp_n, xenp_i, xenp_r, xenp_z, xenp_l, xrep_0, xrep_s, Nat.reduceSub, true_and, and_true, cat_i, cat_r, Nat.reduceAdd, Nat.reduceLT, Nat.reduceLeDiff, Nat.reduceEqDiff, xnc, Int.reduceAdd, Int.reduceSub, Int.reduceNeg, Int.reduceLE, Int.reduceLT, Int.reduceToNat, ↓reduceIte, List.length_cons, List.length_nil, xlc0, xlc1, ite_10, i10, i01, i0_2, i0_3, i0_4, i0_6, i0_7, i0_8, i0_49, i0_10, or_true, true_or, or_false, false_or, not_false_eq_true, not_true_eq_false, xnt, xI_g, eq_self, xI_2, xJ_1, false_and, and_false, obT_t, obS_t, ob6_t, ob2_t, ob0_t, kT1_t, kT2_t, kT3_t, kT4_t, lT1, lT2, rT6, rT7, rT8, rT9, rT1i, rT2i, rS2, kSe_t, lSe, r0_0, r0_1, r0_2, r0_3, r0_4, r0_5, r0_6, r0_7, r0_8, r0_9, r1_i, r2_4, r2_5, r4_4, a1_t, a3_t, a5_t, a6_t, a7_t, a8_t, l1, l3, l5, l6, l7, l8, T1, T2, T3, T4, nI8, nI6, nI160, nI20, nI401, nI49, ob5_t, ob1_t, vp_tn, tn_def, lgc, dX4_said_0, st_aload_n, dX4_said_1, st_iload_n, dX4_said_2, st_invokevirtual, dX4_said_5, st_astore_n, dX4_said_6, dX4_said_7, st_tableswitch, dX4_said_44, dX4_said_45, dX4_said_46, st_getfield, fl_X4_90, dX4_said_49, dX4_said_52, st_invokestatic, dX4_said_55, st_iconst, dX4_said_56, st_isub, dX4_said_57, st_ireturn, dX4_said_58, dX4_said_59, dX4_said_60, dX4_said_61, dX4_said_64, dX4_said_65, dX4_said_66, fl_X4_93, dX4_said_69, dX4_said_70, dX4_said_71, fl_X4_96, dX4_said_74, dX4_said_75, dX4_said_76, dX4_said_77, dX4_said_78, dX4_said_81, dX4_said_82, dX4_said_83, fl_X4_15, dX4_said_86, dX4_said_87, dX4_said_88, dX4_said_89, dX4_said_92, dX4_said_93, dX4_said_94, dX4_said_95, dX4_said_98, c_X4_said_65, pX4_who_e, fX4_who_e, Option.toList_some, Option.toList_none, List.cons_append, List.nil_append, c_X4_said_118, pX4_havers_e, fX4_havers_e, c_X4_said_122, pJ6_bitCount_0f7a4_e, fJ6_bitCount_0f7a4_e, c_X4_said_127, pX4_countOthers_e, fX4_countOthers_e, ofI_m2, ofI_m1, ofI_0, ofI_1, ofI_2, ofI_3, ofI_4, ofI_5, ofI_6, ofI_7, ofI_8, ofI_9, ofI_10, ofI_11, hp1, hp2]
  simp only [hR, fX4_said_e, sayX]
  grind
theorem rX4_said : ∀ as σ, pX4_said as σ → ∃ K as', as = .ref K :: as' ∧ xob WX K 4 := by
  rintro as σ ⟨B, x, k, rfl, hpre⟩
  exact ⟨_, _, rfl, by first | exact hpre | exact hpre.1 | exact obT hpre | exact obT hpre.1 | exact obS hpre | exact obS hpre.1 | exact obM | exact ob6 | exact ob2 | exact ob0⟩
def pX6_isUpTo (as : List Value) (σ : xS) : Prop := ∃ (v : Int32) (n : Int32), as = [.int v, .int n] ∧ (True)
def fX6_isUpTo (as : List Value) (σ : xS) : Option Value × xS := match as with
  | [.int v, .int n] => (some (.int (if 0 ≤ v ∧ v ≤ n then 1 else 0)), σ)
  | _ => (none, σ)
theorem pX6_isUpTo_e {v : Int32} {n : Int32} {σ : xS} : pX6_isUpTo [.int v, .int n] σ = (True) := propext ⟨fun h => by obtain ⟨v, n, e, h⟩ := h; cases e; exact h, fun h => ⟨v, n, rfl, h⟩⟩
theorem fX6_isUpTo_e {v : Int32} {n : Int32} {σ : xS} : fX6_isUpTo [.int v, .int n] σ = (some (.int (if 0 ≤ v ∧ v ≤ n then 1 else 0)), σ) := rfl
def calX6_isUpTo : List (Nat × xCall) := []
set_option maxHeartbeats 4000000 in
set_option maxRecDepth 100000 in
theorem mX6_isUpTo : xMet WX yX6_isUpTo cX6_isUpTo 2 (some .boolean) 1 pX6_isUpTo fX6_isUpTo := by
  refine xMet_of (fld := xlk fldX6) (cal := xlk calX6_isUpTo) (ks := xlk []) (gs := xlk []) (ro := fun _ => none) 1 (by decide) WX_nd rfl fldX6_ok xKs_nil xGs_nil (Or.inr rfl) xcal_nil ?_ ?_
  · rintro av σ ⟨v, n, rfl, hpre⟩
    exact Nat.le_of_ble_eq_true rfl
  rintro av σ ⟨v, n, rfl, hp1⟩ Rt hR
  refine xgo0 11 ?_
  simp (config := {maxSteps := 2000000}) only [xwp_2, xwp_0, xwp_1, xws_s, xdd_o, xld_0, xld_s, xs1_0, xs1_1, xs1_s, xs2_0, xs2_1, xs2_s, xlg_n, xlg_i, xlg_r, xlg_z, xlg_l, xf4_0, xf4_1, xf4_2, xf4_3, xgo_e, xcmp_eq, xcmp_ne, xcmp_lt, xcmp_ge, xcmp_gt, xcmp_le, xfg_0, xfg_1, xfg_2, xfg_3, xfg_4, xpop_0, xpop_s, xsw_n, xsw_c, xtb_n, xtb_c, xenp_n, xenp_i, xenp_r, xenp_z, xenp_l, xrep_0, xrep_s, Nat.reduceSub, true_and, and_true, cat_i, cat_r, Nat.reduceAdd, Nat.reduceLT, Nat.reduceLeDiff, Nat.reduceEqDiff, xnc, Int.reduceAdd, Int.reduceSub, Int.reduceNeg, Int.reduceLE, Int.reduceLT, Int.reduceToNat, ↓reduceIte, List.length_cons, List.length_nil, xlc0, xlc1, ite_10, i10, i01, i0_2, i0_3, i0_4, i0_6, i0_7, i0_8, i0_49, i0_10, or_true, true_or, or_false, false_or, not_false_eq_true, not_true_eq_false, xnt, xI_g, eq_self, xI_2, xJ_1, false_and, and_false, obT_t, obS_t, ob6_t, ob2_t, ob0_t, kT1_t, kT2_t, kT3_t, kT4_t, lT1, lT2, rT6, rT7, rT8, rT9, rT1i, rT2i, rS2, kSe_t, lSe, r0_0, r0_1, r0_2, r0_3, r0_4, r0_5, r0_6, r0_7, r0_8, r0_9, r1_i, r2_4, r2_5, r4_4, a1_t, a3_t, a5_t, a6_t, a7_t, a8_t, l1, l3, l5, l6, l7, l8, T1, T2, T3, T4, nI8, nI6, nI160, nI20, nI401, nI49, ob5_t, ob1_t, vp_tn, tn_def, lgc, dX6_isUpTo_0, st_iload_n, dX6_isUpTo_1, st_ifCond, dX6_isUpTo_4, dX6_isUpTo_5, dX6_isUpTo_6, st_if_icmp, dX6_isUpTo_9, st_iconst, dX6_isUpTo_10, st_goto, dX6_isUpTo_13, dX6_isUpTo_14, st_ireturn, ofI_1, ofI_0, hp1]
  try simp only [hR, fX6_isUpTo_e, Option.some.injEq, Value.int.injEq, Value.long.injEq, Value.ref.injEq, and_true, true_and]
  all_goals grind
/-- one more refusal -/
def rfJ (a : Int32) : Int32 := if a ≤ -10 then -10 - a else -a
def rfX (σ : xS) (a : Int32) : xS := if 0 ≤ rfJ a ∧ rfJ a < 8 then xI σ 6 (tn (rfJ a)) (σ.1 6 (tn (rfJ a)) + 1) else σ
def pX6_refuse (as : List Value) (σ : xS) : Prop := ∃ (a : Int32), as = [.ref 0, .int a] ∧ (True)
def fX6_refuse (as : List Value) (σ : xS) : Option Value × xS := match as with
  | [.ref 0, .int a] => (some (.int a), rfX σ a)
  | _ => (none, σ)
theorem pX6_refuse_e {a : Int32} {σ : xS} : pX6_refuse [.ref 0, .int a] σ = (True) := propext ⟨fun h => by obtain ⟨a, e, h⟩ := h; cases e; exact h, fun h => ⟨a, rfl, h⟩⟩
theorem fX6_refuse_e {a : Int32} {σ : xS} : fX6_refuse [.ref 0, .int a] σ = (some (.int a), rfX σ a) := rfl
def calX6_refuse : List (Nat × xCall) := []
set_option maxHeartbeats 4000000 in
set_option maxRecDepth 100000 in
theorem mX6_refuse : xMet WX yX6_refuse cX6_refuse 3 (some .int) 1 pX6_refuse fX6_refuse := by
  refine xMet_of (fld := xlk fldX6) (cal := xlk calX6_refuse) (ks := xlk []) (gs := xlk []) (ro := fun _ => none) 0 (by decide) WX_nd rfl fldX6_ok xKs_nil xGs_nil (Or.inr rfl) xcal_nil ?_ ?_
  · rintro av σ ⟨a, rfl, hpre⟩
    exact Nat.le_of_ble_eq_true rfl
  rintro av σ ⟨a, rfl, hp1⟩ Rt hR
  refine xgo0 29 ?_
  simp (config := {maxSteps := 2000000}) only [xwp_2, xwp_0, xwp_1, xws_s, xdd_o, xld_0, xld_s, xs1_0, xs1_1, xs1_s, xs2_0, xs2_1, xs2_s, xlg_n, xlg_i, xlg_r, xlg_z, xlg_l, xf4_0, xf4_1, xf4_2, xf4_3, xgo_e, xcmp_eq, xcmp_ne, xcmp_lt, xcmp_ge, xcmp_gt, xcmp_le, xfg_0, xfg_1, xfg_2, xfg_3, xfg_4, xpop_0, xpop_s, xsw_n, xsw_c, xtb_n, xtb_c, xenp_n, xenp_i, xenp_r, xenp_z, xenp_l, xrep_0, xrep_s, Nat.reduceSub, true_and, and_true, cat_i, cat_r, Nat.reduceAdd, Nat.reduceLT, Nat.reduceLeDiff, Nat.reduceEqDiff, xnc, Int.reduceAdd, Int.reduceSub, Int.reduceNeg, Int.reduceLE, Int.reduceLT, Int.reduceToNat, ↓reduceIte, List.length_cons, List.length_nil, xlc0, xlc1, ite_10, i10, i01, i0_2, i0_3, i0_4, i0_6, i0_7, i0_8, i0_49, i0_10, or_true, true_or, or_false, false_or, not_false_eq_true, not_true_eq_false, xnt, xI_g, eq_self, xI_2, xJ_1, false_and, and_false, obT_t, obS_t, ob6_t, ob2_t, ob0_t, kT1_t, kT2_t, kT3_t, kT4_t, lT1, lT2, rT6, rT7, rT8, rT9, rT1i, rT2i, rS2, kSe_t, lSe, r0_0, r0_1, r0_2, r0_3, r0_4, r0_5, r0_6, r0_7, r0_8, r0_9, r1_i, r2_4, r2_5, r4_4, a1_t, a3_t, a5_t, a6_t, a7_t, a8_t, l1, l3, l5, l6, l7, l8, T1, T2, T3, T4, nI8, nI6, nI160, nI20, nI401, nI49, ob5_t, ob1_t, vp_tn, tn_def, lgc, dX6_refuse_0, st_iload_n, dX6_refuse_1, st_bipush, dX6_refuse_3, st_if_icmp, dX6_refuse_6, dX6_refuse_8, dX6_refuse_9, st_isub, dX6_refuse_10, st_goto, dX6_refuse_13, dX6_refuse_14, st_ineg, dX6_refuse_15, st_istore_n, dX6_refuse_16, dX6_refuse_17, st_ifCond, dX6_refuse_20, dX6_refuse_21, st_aload_n, dX6_refuse_22, st_getfield, fl_X6_42, dX6_refuse_25, st_arraylength, dX6_refuse_26, dX6_refuse_29, dX6_refuse_30, dX6_refuse_33, dX6_refuse_34, st_dup2, dX6_refuse_35, st_iaload, dX6_refuse_36, st_iconst, dX6_refuse_37, st_iadd, dX6_refuse_38, st_iastore, dX6_refuse_39, dX6_refuse_40, st_ireturn, ofI_m10, ofI_1, hp1]
  have h8 : ∀ x : Int32, 0 ≤ x ∧ x < 8 → tn x < 8 := fun x => tn8
  have e1 : rfJ a = if a ≤ -10 then -10 - a else -a := rfl
  simp only [hR, fX6_refuse_e, rfX]
  clear hR
  by_cases h : a ≤ -10
  · simp only [h, ↓reduceIte] at e1
    rw [e1]
    clear e1
    generalize -10 - a = j at *
    have := h8 j
    clear h8
    grind
  · simp only [h, ↓reduceIte] at e1
    rw [e1]
    clear e1
    generalize -a = j at *
    have := h8 j
    clear h8
    grind
theorem rX6_refuse : ∀ as σ, pX6_refuse as σ → ∃ K as', as = .ref K :: as' ∧ xob WX K 6 := by
  rintro as σ ⟨a, rfl, hpre⟩
  exact ⟨_, _, rfl, by first | exact hpre | exact hpre.1 | exact obT hpre | exact obT hpre.1 | exact obS hpre | exact obS hpre.1 | exact obM | exact ob6 | exact ob2 | exact ob0⟩
def pX6_shelfBy (as : List Value) (σ : xS) : Prop := ∃ (s : Int32), as = [.ref 0, .int s] ∧ (True)
def fX6_shelfBy (as : List Value) (σ : xS) : Option Value × xS := match as with
  | [.ref 0, .int s] => (some (if 0 ≤ s ∧ s < 8 then .ref (10 + tn s) else .null), σ)
  | _ => (none, σ)
theorem pX6_shelfBy_e {s : Int32} {σ : xS} : pX6_shelfBy [.ref 0, .int s] σ = (True) := propext ⟨fun h => by obtain ⟨s, e, h⟩ := h; cases e; exact h, fun h => ⟨s, rfl, h⟩⟩
theorem fX6_shelfBy_e {s : Int32} {σ : xS} : fX6_shelfBy [.ref 0, .int s] σ = (some (if 0 ≤ s ∧ s < 8 then .ref (10 + tn s) else .null), σ) := rfl
def calX6_shelfBy : List (Nat × xCall) := []
set_option maxHeartbeats 4000000 in
set_option maxRecDepth 100000 in
theorem mX6_shelfBy : xMet WX yX6_shelfBy cX6_shelfBy 2 (some (.object "AsTheLastHeMet$Shelf")) 1 pX6_shelfBy fX6_shelfBy := by
  refine xMet_of (fld := xlk fldX6) (cal := xlk calX6_shelfBy) (ks := xlk []) (gs := xlk []) (ro := fun _ => none) 3 (by decide) WX_nd ⟨_, rfl⟩ fldX6_ok xKs_nil xGs_nil (Or.inr rfl) xcal_nil ?_ ?_
  · rintro av σ ⟨s, rfl, hpre⟩
    exact Nat.le_of_ble_eq_true rfl
  rintro av σ ⟨s, rfl, hp1⟩ Rt hR
  refine xgo0 16 ?_
  simp (config := {maxSteps := 2000000}) only [xwp_2, xwp_0, xwp_1, xws_s, xdd_o, xld_0, xld_s, xs1_0, xs1_1, xs1_s, xs2_0, xs2_1, xs2_s, xlg_n, xlg_i, xlg_r, xlg_z, xlg_l, xf4_0, xf4_1, xf4_2, xf4_3, xgo_e, xcmp_eq, xcmp_ne, xcmp_lt, xcmp_ge, xcmp_gt, xcmp_le, xfg_0, xfg_1, xfg_2, xfg_3, xfg_4, xpop_0, xpop_s, xsw_n, xsw_c, xtb_n, xtb_c, xenp_n, xenp_i, xenp_r, xenp_z, xenp_l, xrep_0, xrep_s, Nat.reduceSub, true_and, and_true, cat_i, cat_r, Nat.reduceAdd, Nat.reduceLT, Nat.reduceLeDiff, Nat.reduceEqDiff, xnc, Int.reduceAdd, Int.reduceSub, Int.reduceNeg, Int.reduceLE, Int.reduceLT, Int.reduceToNat, ↓reduceIte, List.length_cons, List.length_nil, xlc0, xlc1, ite_10, i10, i01, i0_2, i0_3, i0_4, i0_6, i0_7, i0_8, i0_49, i0_10, or_true, true_or, or_false, false_or, not_false_eq_true, not_true_eq_false, xnt, xI_g, eq_self, xI_2, xJ_1, false_and, and_false, obT_t, obS_t, ob6_t, ob2_t, ob0_t, kT1_t, kT2_t, kT3_t, kT4_t, lT1, lT2, rT6, rT7, rT8, rT9, rT1i, rT2i, rS2, kSe_t, lSe, r0_0, r0_1, r0_2, r0_3, r0_4, r0_5, r0_6, r0_7, r0_8, r0_9, r1_i, r2_4, r2_5, r4_4, a1_t, a3_t, a5_t, a6_t, a7_t, a8_t, l1, l3, l5, l6, l7, l8, T1, T2, T3, T4, nI8, nI6, nI160, nI20, nI401, nI49, ob5_t, ob1_t, vp_tn, tn_def, lgc, dX6_shelfBy_0, st_iload_n, dX6_shelfBy_1, st_ifCond, dX6_shelfBy_4, dX6_shelfBy_5, st_aload_n, dX6_shelfBy_6, st_getfield, fl_X6_11, dX6_shelfBy_9, st_arraylength, dX6_shelfBy_10, st_if_icmp, dX6_shelfBy_13, dX6_shelfBy_14, dX6_shelfBy_17, dX6_shelfBy_18, st_aaload, dX6_shelfBy_19, st_goto, dX6_shelfBy_22, st_aconst_null, dX6_shelfBy_23, st_areturn, hp1]
  have h8 : 0 ≤ s ∧ s < 8 → tn s < 8 := tn8
  simp only [hR, fX6_shelfBy_e]
  clear hR
  grind
theorem rX6_shelfBy : ∀ as σ, pX6_shelfBy as σ → ∃ K as', as = .ref K :: as' ∧ xob WX K 6 := by
  rintro as σ ⟨s, rfl, hpre⟩
  exact ⟨_, _, rfl, by first | exact hpre | exact hpre.1 | exact obT hpre | exact obT hpre.1 | exact obS hpre | exact obS hpre.1 | exact obM | exact ob6 | exact ob2 | exact ob0⟩
/-- why a shelf's row can't be had -/
def wnr (σ : xS) (K : Nat) : Int32 := if 0 ≤ σ.1 K 0 ∧ σ.1 K 0 < 100 then -2 else if 100 ≤ σ.1 K 0 then 0 else -3
def pX6_whyNoRow (as : List Value) (_ : xS) : Prop := as = [.null] ∨ ∃ K, xSh K ∧ as = [.ref K]
def fX6_whyNoRow (as : List Value) (σ : xS) : Option Value × xS := match as with
  | [.ref K] => (some (.int (wnr σ K)), σ)
  | _ => (some (.int (-1)), σ)
theorem pwnr_n {σ : xS} : pX6_whyNoRow [.null] σ = True := eq_true (Or.inl rfl)
theorem pwnr_r {σ : xS} {K : Nat} (h : xSh K) : pX6_whyNoRow [.ref K] σ = True := eq_true (Or.inr ⟨K, h, rfl⟩)
theorem fwnr_n {σ : xS} : fX6_whyNoRow [.null] σ = (some (.int (-1)), σ) := rfl
theorem fwnr_r {σ : xS} {K : Nat} : fX6_whyNoRow [.ref K] σ = (some (.int (wnr σ K)), σ) := rfl
def calX6_whyNoRow : List (Nat × xCall) := [(90, (false, 1, pX3_hasWalker, fX3_hasWalker)), (86, (false, 1, pX3_hasRow, fX3_hasRow))]
theorem c_X6_whyNoRow_90 : xlk calX6_whyNoRow 90 = some (false, 1, pX3_hasWalker, fX3_hasWalker) := rfl
theorem c_X6_whyNoRow_86 : xlk calX6_whyNoRow 86 = some (false, 1, pX3_hasRow, fX3_hasRow) := rfl
set_option maxHeartbeats 4000000 in
set_option maxRecDepth 100000 in
theorem mX6_whyNoRow : xMet WX yX6_whyNoRow cX6_whyNoRow 1 (some .int) 2 pX6_whyNoRow fX6_whyNoRow := by
  refine xMet_of (fld := xlk fldX6) (cal := xlk calX6_whyNoRow) (ks := xlk []) (gs := xlk []) (ro := fun _ => none) 0 (by decide) WX_nd rfl fldX6_ok xKs_nil xGs_nil (Or.inr rfl) (xcal_cons (xCk_V mX3_hasWalker 3 (by decide) (by decide) (by decide) rfl (fun as σ h _ => rX3_hasWalker as σ h) w_X6_90 ⟨by decide, by decide, by decide +kernel⟩) (xcal_cons (xCk_V mX3_hasRow 3 (by decide) (by decide) (by decide) rfl (fun as σ h _ => rX3_hasRow as σ h) w_X6_86 ⟨by decide, by decide, by decide +kernel⟩) xcal_nil)) ?_ ?_
  · rintro av σ (rfl | ⟨K, hK, rfl⟩) <;> exact Nat.le_of_ble_eq_true rfl
  rintro av σ (rfl | ⟨K, hK, rfl⟩) Rt hR
  · refine xgo0 18 ?_
    simp only [xwp_2, xwp_0, xwp_1, xws_s, xdd_o, xld_0, xld_s, xs1_0, xs1_1, xs1_s, xs2_0, xs2_1, xs2_s, xlg_n, xlg_i, xlg_r, xlg_z, xlg_l, xf4_0, xf4_1, xf4_2, xf4_3, xgo_e, xcmp_eq, xcmp_ne, xcmp_lt, xcmp_ge, xcmp_gt, xcmp_le, xfg_0, xfg_1, xfg_2, xfg_3, xfg_4, xpop_0, xpop_s, xsw_n, xsw_c, xtb_n, xtb_c, xenp_n, xenp_i, xenp_r, xenp_z, xenp_l, xrep_0, xrep_s, Nat.reduceSub, true_and, and_true, cat_i, cat_r, Nat.reduceAdd, Nat.reduceLT, Nat.reduceLeDiff, Nat.reduceEqDiff, xnc, Int.reduceAdd, Int.reduceSub, Int.reduceNeg, Int.reduceLE, Int.reduceLT, Int.reduceToNat, ↓reduceIte, List.length_cons, List.length_nil, xlc0, xlc1, ite_10, i10, i01, i0_2, i0_3, i0_4, i0_6, i0_7, i0_8, i0_49, i0_10, or_true, true_or, or_false, false_or, not_false_eq_true, not_true_eq_false, xnt, xI_g, eq_self, xI_2, xJ_1, false_and, and_false, obT_t, obS_t, ob6_t, ob2_t, ob0_t, kT1_t, kT2_t, kT3_t, kT4_t, lT1, lT2, rT6, rT7, rT8, rT9, rT1i, rT2i, rS2, kSe_t, lSe, r0_0, r0_1, r0_2, r0_3, r0_4, r0_5, r0_6, r0_7, r0_8, r0_9, r1_i, r2_4, r2_5, r4_4, a1_t, a3_t, a5_t, a6_t, a7_t, a8_t, l1, l3, l5, l6, l7, l8, T1, T2, T3, T4, nI8, nI6, nI160, nI20, nI401, nI49, ob5_t, ob1_t, vp_tn, tn_def, lgc, dX6_whyNoRow_0, st_aload_n, dX6_whyNoRow_1, st_ifnonnull, dX6_whyNoRow_4, st_iconst, dX6_whyNoRow_5, st_ireturn, dX6_whyNoRow_6, dX6_whyNoRow_7, st_invokevirtual, dX6_whyNoRow_10, st_ifCond, dX6_whyNoRow_13, st_bipush, dX6_whyNoRow_15, dX6_whyNoRow_16, dX6_whyNoRow_17, dX6_whyNoRow_20, dX6_whyNoRow_23, dX6_whyNoRow_24, st_goto, dX6_whyNoRow_27, dX6_whyNoRow_29, c_X6_whyNoRow_90, pX3_hasWalker_e, fX3_hasWalker_e, Option.toList_some, Option.toList_none, List.cons_append, List.nil_append, c_X6_whyNoRow_86, pX3_hasRow_e, fX3_hasRow_e, ofI_m1, ofI_m2, ofI_0, ofI_m3]
    rw [hR]
    exact ⟨rfl, rfl⟩
  · refine xgo0 18 ?_
    simp only [xwp_2, xwp_0, xwp_1, xws_s, xdd_o, xld_0, xld_s, xs1_0, xs1_1, xs1_s, xs2_0, xs2_1, xs2_s, xlg_n, xlg_i, xlg_r, xlg_z, xlg_l, xf4_0, xf4_1, xf4_2, xf4_3, xgo_e, xcmp_eq, xcmp_ne, xcmp_lt, xcmp_ge, xcmp_gt, xcmp_le, xfg_0, xfg_1, xfg_2, xfg_3, xfg_4, xpop_0, xpop_s, xsw_n, xsw_c, xtb_n, xtb_c, xenp_n, xenp_i, xenp_r, xenp_z, xenp_l, xrep_0, xrep_s, Nat.reduceSub, true_and, and_true, cat_i, cat_r, Nat.reduceAdd, Nat.reduceLT, Nat.reduceLeDiff, Nat.reduceEqDiff, xnc, Int.reduceAdd, Int.reduceSub, Int.reduceNeg, Int.reduceLE, Int.reduceLT, Int.reduceToNat, ↓reduceIte, List.length_cons, List.length_nil, xlc0, xlc1, ite_10, i10, i01, i0_2, i0_3, i0_4, i0_6, i0_7, i0_8, i0_49, i0_10, or_true, true_or, or_false, false_or, not_false_eq_true, not_true_eq_false, xnt, xI_g, eq_self, xI_2, xJ_1, false_and, and_false, obT_t, obS_t, ob6_t, ob2_t, ob0_t, kT1_t, kT2_t, kT3_t, kT4_t, lT1, lT2, rT6, rT7, rT8, rT9, rT1i, rT2i, rS2, kSe_t, lSe, r0_0, r0_1, r0_2, r0_3, r0_4, r0_5, r0_6, r0_7, r0_8, r0_9, r1_i, r2_4, r2_5, r4_4, a1_t, a3_t, a5_t, a6_t, a7_t, a8_t, l1, l3, l5, l6, l7, l8, T1, T2, T3, T4, nI8, nI6, nI160, nI20, nI401, nI49, ob5_t, ob1_t, vp_tn, tn_def, lgc, dX6_whyNoRow_0, st_aload_n, dX6_whyNoRow_1, st_ifnonnull, dX6_whyNoRow_4, st_iconst, dX6_whyNoRow_5, st_ireturn, dX6_whyNoRow_6, dX6_whyNoRow_7, st_invokevirtual, dX6_whyNoRow_10, st_ifCond, dX6_whyNoRow_13, st_bipush, dX6_whyNoRow_15, dX6_whyNoRow_16, dX6_whyNoRow_17, dX6_whyNoRow_20, dX6_whyNoRow_23, dX6_whyNoRow_24, st_goto, dX6_whyNoRow_27, dX6_whyNoRow_29, c_X6_whyNoRow_90, pX3_hasWalker_e, fX3_hasWalker_e, Option.toList_some, Option.toList_none, List.cons_append, List.nil_append, c_X6_whyNoRow_86, pX3_hasRow_e, fX3_hasRow_e, ofI_m1, ofI_m2, ofI_0, ofI_m3, hK]
    simp only [hR, fwnr_r, wnr]
    clear hR
    grind
/-- whether the first n threes are sights -/
def sgB (σ : xS) (K : Nat) (i : Nat) : Bool := decide (¬ (0 ≤ nmA σ K (3 * nI i) ∧ nmA σ K (3 * nI i) ≤ 400) ∨ ¬ (0 ≤ nmA σ K (3 * nI i + 1) ∧ nmA σ K (3 * nI i + 1) ≤ 48) ∨ ¬ (0 ≤ nmA σ K (3 * nI i + 2) ∧ nmA σ K (3 * nI i + 2) < σ.1 100 1))
def wns (σ : xS) (K : Nat) (n : Int32) : Int32 := if n < 0 then -4 else if σ.1 K 1 / 3 < n then -5 else if 10 < n then -6 else if xany (sgB σ K) (tn n) = true then -6 else 0
theorem i0_3' : ((3 : Int32) = 0) = False := eq_false (by decide)
def pX6_whyNoSights (as : List Value) (σ : xS) : Prop := ∃ (K : Nat) (n : Int32), as = [.ref 0, .ref K, .int n] ∧ (xSh K)
def fX6_whyNoSights (as : List Value) (σ : xS) : Option Value × xS := match as with
  | [.ref 0, .ref K, .int n] => (some (.int (wns σ K n)), σ)
  | _ => (none, σ)
theorem pX6_whyNoSights_e {K : Nat} {n : Int32} {σ : xS} : pX6_whyNoSights [.ref 0, .ref K, .int n] σ = (xSh K) := propext ⟨fun h => by obtain ⟨K, n, e, h⟩ := h; cases e; exact h, fun h => ⟨K, n, rfl, h⟩⟩
theorem fX6_whyNoSights_e {K : Nat} {n : Int32} {σ : xS} : fX6_whyNoSights [.ref 0, .ref K, .int n] σ = (some (.int (wns σ K n)), σ) := rfl
def calX6_whyNoSights : List (Nat × xCall) := [(133, (false, 2, pX3_numberAt, fX3_numberAt)), (110, (true, 2, pX6_isUpTo, fX6_isUpTo)), (152, (false, 2, pX4_hasGait, fX4_hasGait))]
theorem c_X6_whyNoSights_133 : xlk calX6_whyNoSights 133 = some (false, 2, pX3_numberAt, fX3_numberAt) := rfl
theorem c_X6_whyNoSights_110 : xlk calX6_whyNoSights 110 = some (true, 2, pX6_isUpTo, fX6_isUpTo) := rfl
theorem c_X6_whyNoSights_152 : xlk calX6_whyNoSights 152 = some (false, 2, pX4_hasGait, fX4_hasGait) := rfl
set_option maxHeartbeats 4000000 in
set_option maxRecDepth 100000 in
theorem mX6_whyNoSights : xMet WX yX6_whyNoSights cX6_whyNoSights 4 (some .int) 4 pX6_whyNoSights fX6_whyNoSights := by
  refine xMet_of (fld := xlk fldX6) (cal := xlk calX6_whyNoSights) (ks := xlk []) (gs := xlk []) (ro := fun _ => none) 0 (by decide) WX_nd rfl fldX6_ok xKs_nil xGs_nil (Or.inr rfl) (xcal_cons (xCk_V mX3_numberAt 3 (by decide) (by decide) (by decide) rfl (fun as σ h _ => rX3_numberAt as σ h) w_X6_133 ⟨by decide, by decide, by decide +kernel⟩) (xcal_cons (xCk_S mX6_isUpTo (by decide) (by decide) w_X6_110 ⟨by decide, by decide, by decide +kernel⟩) (xcal_cons (xCk_V mX4_hasGait 4 (by decide) (by decide) (by decide) rfl (fun as σ h _ => rX4_hasGait as σ h) w_X6_152 ⟨by decide, by decide, by decide +kernel⟩) xcal_nil))) ?_ ?_
  · rintro av σ ⟨K, n, rfl, hpre⟩
    exact Nat.le_of_ble_eq_true rfl
  rintro av σ ⟨K, n, rfl, hp1⟩ Rt hR
  have hw : fX6_whyNoSights [.ref 0, .ref K, .int n] σ = (some (.int (wns σ K n)), σ) := rfl
  have w0 : wns σ K n = if n < 0 then -4 else if σ.1 K 1 / 3 < n then -5 else if 10 < n then -6 else if xany (sgB σ K) (tn n) = true then -6 else 0 := rfl
  refine xto 31 (fun L st s => (¬ n < 0 ∧ ¬ σ.1 K 1 / 3 < n ∧ ¬ 10 < n) ∧ L = [some (.ref 0), some (.ref K), some (.int n), some (.int (nI 0))] ∧ st = [] ∧ s = σ) 20 ?_ ?_
  · rintro L st s ⟨⟨h1, h2, h3⟩, rfl, rfl, rfl⟩
    simp only [h1, h2, h3, ↓reduceIte] at w0
    have h10 : tn n ≤ 10 := by
      have e := Int32.not_lt.mp h3
      rw [t_le] at e
      have e2 : (10 : Int32).toInt = 10 := rfl
      rw [t_tn]
      omega
    refine xfor 31 (tn n) 60 (fun i => [some (.ref 0), some (.ref K), some (.int n), some (.int (nI i))]) (fun _ => s) (fun i => ∀ j, j < i → sgB s K j = false) (fun i hi hH => ?_) 0 (Nat.zero_le _) (fun j hj => by omega)
    simp only [xwp_2, xwp_0, xwp_1, xws_s, xdd_o, xld_0, xld_s, xs1_0, xs1_1, xs1_s, xs2_0, xs2_1, xs2_s, xlg_n, xlg_i, xlg_r, xlg_z, xlg_l, xf4_0, xf4_1, xf4_2, xf4_3, xgo_e, xcmp_eq, xcmp_ne, xcmp_lt, xcmp_ge, xcmp_gt, xcmp_le, xfg_0, xfg_1, xfg_2, xfg_3, xfg_4, xpop_0, xpop_s, xsw_n, xsw_c, xtb_n, xtb_c, xenp_n, xenp_i, xenp_r, xenp_z, xenp_l, xrep_0, xrep_s, Nat.reduceSub, true_and, and_true, cat_i, cat_r, Nat.reduceAdd, Nat.reduceLT, Nat.reduceLeDiff, Nat.reduceEqDiff, xnc, Int.reduceAdd, Int.reduceSub, Int.reduceNeg, Int.reduceLE, Int.reduceLT, Int.reduceToNat, ↓reduceIte, List.length_cons, List.length_nil, xlc0, xlc1, ite_10, i10, i01, i0_2, i0_3, i0_4, i0_6, i0_7, i0_8, i0_49, i0_10, or_true, true_or, or_false, false_or, not_false_eq_true, not_true_eq_false, xnt, xI_g, eq_self, xI_2, xJ_1, false_and, and_false, obT_t, obS_t, ob6_t, ob2_t, ob0_t, kT1_t, kT2_t, kT3_t, kT4_t, lT1, lT2, rT6, rT7, rT8, rT9, rT1i, rT2i, rS2, kSe_t, lSe, r0_0, r0_1, r0_2, r0_3, r0_4, r0_5, r0_6, r0_7, r0_8, r0_9, r1_i, r2_4, r2_5, r4_4, a1_t, a3_t, a5_t, a6_t, a7_t, a8_t, l1, l3, l5, l6, l7, l8, T1, T2, T3, T4, nI8, nI6, nI160, nI20, nI401, nI49, ob5_t, ob1_t, vp_tn, tn_def, lgc, dX6_whyNoSights_0, st_iload_n, dX6_whyNoSights_1, st_ifCond, dX6_whyNoSights_4, st_bipush, dX6_whyNoSights_6, st_ireturn, dX6_whyNoSights_7, dX6_whyNoSights_8, st_aload_n, dX6_whyNoSights_9, st_getfield, fl_X6_130, dX6_whyNoSights_12, st_iconst, dX6_whyNoSights_13, st_idiv, dX6_whyNoSights_14, st_if_icmp, dX6_whyNoSights_17, dX6_whyNoSights_19, dX6_whyNoSights_20, dX6_whyNoSights_21, dX6_whyNoSights_23, dX6_whyNoSights_26, dX6_whyNoSights_28, dX6_whyNoSights_29, dX6_whyNoSights_30, st_istore_n, dX6_whyNoSights_31, dX6_whyNoSights_32, dX6_whyNoSights_33, dX6_whyNoSights_36, dX6_whyNoSights_37, dX6_whyNoSights_38, dX6_whyNoSights_39, st_imul, dX6_whyNoSights_40, st_invokevirtual, dX6_whyNoSights_43, st_sipush, dX6_whyNoSights_46, st_invokestatic, dX6_whyNoSights_49, dX6_whyNoSights_52, dX6_whyNoSights_53, dX6_whyNoSights_54, dX6_whyNoSights_55, dX6_whyNoSights_56, dX6_whyNoSights_57, st_iadd, dX6_whyNoSights_58, dX6_whyNoSights_61, dX6_whyNoSights_63, dX6_whyNoSights_66, dX6_whyNoSights_69, dX6_whyNoSights_70, fl_X6_18, dX6_whyNoSights_73, dX6_whyNoSights_74, dX6_whyNoSights_75, dX6_whyNoSights_76, dX6_whyNoSights_77, dX6_whyNoSights_78, dX6_whyNoSights_79, dX6_whyNoSights_82, dX6_whyNoSights_85, dX6_whyNoSights_88, dX6_whyNoSights_90, dX6_whyNoSights_91, st_iinc, dX6_whyNoSights_94, st_goto, dX6_whyNoSights_97, dX6_whyNoSights_98, c_X6_whyNoSights_133, pX3_numberAt_e, fX3_numberAt_n, Option.toList_some, Option.toList_none, List.cons_append, List.nil_append, c_X6_whyNoSights_110, pX6_isUpTo_e, fX6_isUpTo_e, c_X6_whyNoSights_152, pX4_hasGait_e, fX4_hasGait_e, ofI_m4, ofI_3, ofI_m5, ofI_10, ofI_m6, ofI_0, ofI_400, ofI_1, ofI_48, ofI_2, hp1]
    have hc := le_nI_tn (i := i) (x := n) hi
    have e1 : nI i + 1 = nI (i + 1) := nI_1 i
    have e5 : sgB s K i = decide (¬ (0 ≤ nmA s K (3 * nI i) ∧ nmA s K (3 * nI i) ≤ 400) ∨ ¬ (0 ≤ nmA s K (3 * nI i + 1) ∧ nmA s K (3 * nI i + 1) ≤ 48) ∨ ¬ (0 ≤ nmA s K (3 * nI i + 2) ∧ nmA s K (3 * nI i + 2) < s.1 100 1)) := rfl
    have cont : sgB s K i = false → (∀ j, j < i + 1 → sgB s K j = false) := fun h2 => xall_s hH h2
    have fin : i = tn n → Rt (some (.int 0)) s := fun h => by
      rw [hR, hw, w0, xany_f (by rw [← h]; exact hH)]
      exact ⟨rfl, rfl⟩
    have stop : i < tn n → sgB s K i = true → Rt (some (.int (-6))) s := fun h1 h2 => by
      rw [hR, hw, w0, xany_t h1 h2]
      exact ⟨rfl, rfl⟩
    simp only [hc, e1]
    clear hR w0 hw
    grind
  · simp only [xwp_2, xwp_0, xwp_1, xws_s, xdd_o, xld_0, xld_s, xs1_0, xs1_1, xs1_s, xs2_0, xs2_1, xs2_s, xlg_n, xlg_i, xlg_r, xlg_z, xlg_l, xf4_0, xf4_1, xf4_2, xf4_3, xgo_e, xcmp_eq, xcmp_ne, xcmp_lt, xcmp_ge, xcmp_gt, xcmp_le, xfg_0, xfg_1, xfg_2, xfg_3, xfg_4, xpop_0, xpop_s, xsw_n, xsw_c, xtb_n, xtb_c, xenp_n, xenp_i, xenp_r, xenp_z, xenp_l, xrep_0, xrep_s, Nat.reduceSub, true_and, and_true, cat_i, cat_r, Nat.reduceAdd, Nat.reduceLT, Nat.reduceLeDiff, Nat.reduceEqDiff, xnc, Int.reduceAdd, Int.reduceSub, Int.reduceNeg, Int.reduceLE, Int.reduceLT, Int.reduceToNat, ↓reduceIte, List.length_cons, List.length_nil, xlc0, xlc1, ite_10, i10, i01, i0_2, i0_3, i0_4, i0_6, i0_7, i0_8, i0_49, i0_10, or_true, true_or, or_false, false_or, not_false_eq_true, not_true_eq_false, xnt, xI_g, eq_self, xI_2, xJ_1, false_and, and_false, obT_t, obS_t, ob6_t, ob2_t, ob0_t, kT1_t, kT2_t, kT3_t, kT4_t, lT1, lT2, rT6, rT7, rT8, rT9, rT1i, rT2i, rS2, kSe_t, lSe, r0_0, r0_1, r0_2, r0_3, r0_4, r0_5, r0_6, r0_7, r0_8, r0_9, r1_i, r2_4, r2_5, r4_4, a1_t, a3_t, a5_t, a6_t, a7_t, a8_t, l1, l3, l5, l6, l7, l8, T1, T2, T3, T4, nI8, nI6, nI160, nI20, nI401, nI49, ob5_t, ob1_t, vp_tn, tn_def, lgc, dX6_whyNoSights_0, st_iload_n, dX6_whyNoSights_1, st_ifCond, dX6_whyNoSights_4, st_bipush, dX6_whyNoSights_6, st_ireturn, dX6_whyNoSights_7, dX6_whyNoSights_8, st_aload_n, dX6_whyNoSights_9, st_getfield, fl_X6_130, dX6_whyNoSights_12, st_iconst, dX6_whyNoSights_13, st_idiv, dX6_whyNoSights_14, st_if_icmp, dX6_whyNoSights_17, dX6_whyNoSights_19, dX6_whyNoSights_20, dX6_whyNoSights_21, dX6_whyNoSights_23, dX6_whyNoSights_26, dX6_whyNoSights_28, dX6_whyNoSights_29, dX6_whyNoSights_30, st_istore_n, dX6_whyNoSights_31, dX6_whyNoSights_32, dX6_whyNoSights_33, dX6_whyNoSights_36, dX6_whyNoSights_37, dX6_whyNoSights_38, dX6_whyNoSights_39, st_imul, dX6_whyNoSights_40, st_invokevirtual, dX6_whyNoSights_43, st_sipush, dX6_whyNoSights_46, st_invokestatic, dX6_whyNoSights_49, dX6_whyNoSights_52, dX6_whyNoSights_53, dX6_whyNoSights_54, dX6_whyNoSights_55, dX6_whyNoSights_56, dX6_whyNoSights_57, st_iadd, dX6_whyNoSights_58, dX6_whyNoSights_61, dX6_whyNoSights_63, dX6_whyNoSights_66, dX6_whyNoSights_69, dX6_whyNoSights_70, fl_X6_18, dX6_whyNoSights_73, dX6_whyNoSights_74, dX6_whyNoSights_75, dX6_whyNoSights_76, dX6_whyNoSights_77, dX6_whyNoSights_78, dX6_whyNoSights_79, dX6_whyNoSights_82, dX6_whyNoSights_85, dX6_whyNoSights_88, dX6_whyNoSights_90, dX6_whyNoSights_91, st_iinc, dX6_whyNoSights_94, st_goto, dX6_whyNoSights_97, dX6_whyNoSights_98, c_X6_whyNoSights_133, pX3_numberAt_e, fX3_numberAt_n, Option.toList_some, Option.toList_none, List.cons_append, List.nil_append, c_X6_whyNoSights_110, pX6_isUpTo_e, fX6_isUpTo_e, c_X6_whyNoSights_152, pX4_hasGait_e, fX4_hasGait_e, ofI_m4, ofI_3, ofI_m5, ofI_10, ofI_m6, ofI_0, ofI_400, ofI_1, ofI_48, ofI_2, hp1]
    simp only [hR, hw]
    clear hR hw
    have z : nI 0 = 0 := rfl
    rw [z]
    grind
theorem rX6_whyNoSights : ∀ as σ, pX6_whyNoSights as σ → ∃ K as', as = .ref K :: as' ∧ xob WX K 6 := by
  rintro as σ ⟨K, n, rfl, hpre⟩
  exact ⟨_, _, rfl, by first | exact hpre | exact hpre.1 | exact obT hpre | exact obT hpre.1 | exact obS hpre | exact obS hpre.1 | exact obM | exact ob6 | exact ob2 | exact ob0⟩
