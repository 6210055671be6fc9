theorem hR2_g {Rt : Option Value → xS → Prop} {F : Int32 × xS} (h : ∀ r s', Rt r s' = (r = some (.int F.1) ∧ s' = F.2)) : ∀ v' t', Rt (some (.int v')) t' = ((v', t') = F) := fun v' t' => by
  rw [h]
  exact propext ⟨fun h => Prod.ext (by simpa using h.1) h.2, fun h => ⟨by rw [← h], by rw [← h]⟩⟩
theorem srX_no {P : Nat → Bool} {τ : xS} (h : xfs P 401 = 401) : srX P τ = (-1, gbX 200 401 τ) := by
  rw [srX, xfirst, h, if_neg (Nat.lt_irrefl _)]
theorem srX_at {P : Nat → Bool} {τ : xS} {i : Nat} (h : xfs P 401 = i) (hi : i < 401) : srX P τ = (nI i, gbX 200 i τ) := by
  rw [srX, xfirst, h, if_pos hi]
def pX6_survives (as : List Value) (σ : xS) : Prop := ∃ (n : Int32), as = [.ref 0, .int n] ∧ ((0 ≤ σ.1 100 2) ∧ (σ.1 100 2 ≤ 6) ∧ (σ.1 100 1 ≤ 8))
def fX6_survives (as : List Value) (σ : xS) : Option Value × xS := match as with
  | [.ref 0, .int n] => (some (.int (surX σ n).1), (surX σ n).2)
  | _ => (none, σ)
theorem pX6_survives_e {n : Int32} {σ : xS} : pX6_survives [.ref 0, .int n] σ = ((0 ≤ σ.1 100 2) ∧ (σ.1 100 2 ≤ 6) ∧ (σ.1 100 1 ≤ 8)) := propext ⟨fun h => by obtain ⟨n, e, h⟩ := h; cases e; exact h, fun h => ⟨n, rfl, h⟩⟩
theorem fX6_survives_e {n : Int32} {σ : xS} : fX6_survives [.ref 0, .int n] σ = (some (.int (surX σ n).1), (surX σ n).2) := rfl
def calX6_survives : List (Nat × xCall) := [(110, (true, 2, pX6_isUpTo, fX6_isUpTo)), (66, (false, 2, pX6_refuse, fX6_refuse)), (207, (false, 2, pX6_think, fX6_think)), (114, (false, 2, pX4_who, fX4_who))]
theorem c_X6_survives_110 : xlk calX6_survives 110 = some (true, 2, pX6_isUpTo, fX6_isUpTo) := rfl
theorem c_X6_survives_66 : xlk calX6_survives 66 = some (false, 2, pX6_refuse, fX6_refuse) := rfl
theorem c_X6_survives_207 : xlk calX6_survives 207 = some (false, 2, pX6_think, fX6_think) := rfl
theorem c_X6_survives_114 : xlk calX6_survives 114 = some (false, 2, pX4_who, fX4_who) := rfl
set_option maxHeartbeats 4000000 in
set_option maxRecDepth 100000 in
theorem mX6_survives : xMet WX yX6_survives cX6_survives 4 (some .int) 7 pX6_survives fX6_survives := by
  refine xMet_of (fld := xlk fldX6) (cal := xlk calX6_survives) (ks := xlk []) (gs := xlk []) (ro := fun _ => none) 0 (by decide) WX_nd rfl fldX6_ok xKs_nil xGs_nil (Or.inr rfl) (xcal_cons (xCk_S mX6_isUpTo (by decide) (by decide) w_X6_110 ⟨by decide, by decide, by decide +kernel⟩) (xcal_cons (xCk_V mX6_refuse 6 (by decide) (by decide) (by decide) rfl (fun as σ h _ => rX6_refuse as σ h) w_X6_66 ⟨by decide, by decide, by decide +kernel⟩) (xcal_cons (xCk_V mX6_think 6 (by decide) (by decide) (by decide) rfl (fun as σ h _ => rX6_think as σ h) w_X6_207 ⟨by decide, by decide, by decide +kernel⟩) (xcal_cons (xCk_V mX4_who 4 (by decide) (by decide) (by decide) rfl (fun as σ h _ => rX4_who as σ h) w_X6_114 ⟨by decide, by decide, by decide +kernel⟩) xcal_nil)))) ?_ ?_
  · rintro av σ ⟨n, rfl, hpre⟩
    exact Nat.le_of_ble_eq_true rfl
  rintro av σ ⟨n, rfl, ⟨hp1, hp2, hp3⟩⟩ Rt hR
  have hR2 := hR2_g (Rt := Rt) (F := surX σ n) (fun r s' => by rw [hR, fX6_survives_e])
  have hwk := xwk6 hp2
  refine xto 27 (fun L st t => (0 ≤ n ∧ n ≤ 400) ∧ L = [some (.ref 0), some (.int n), some (.int (svI (thX σ n) 0)), some (.int (nI 0))] ∧ st = [] ∧ t = thX σ n) 30 ?_ ?_
  · rintro L st t ⟨hg, rfl, rfl, rfl⟩
    rw [surX, if_neg (fun q => q hg)] at hR2
    refine xfor 27 (tn (σ.1 100 2)) 60 (fun i => [some (.ref 0), some (.int n), some (.int (svI (thX σ n) i)), some (.int (nI i))]) (fun _ => thX σ n) (fun _ => True) (fun i hi _ => ?_) 0 (Nat.zero_le _) trivial
    simp -implicitDefEqProofs only [xwp_2, xwp_0, xwp_1, xws_s, xdd_o, xld_0, xld_s, xs1_0, xs1_1, xs1_s, xs2_0, xs2_1, xs2_s, xlg_n, xlg_i, xlg_r, xlg_z, xlg_l, xf4_0, xf4_1, xf4_2, xf4_3, xgo_e, xcmp_eq, xcmp_ne, xcmp_lt, xcmp_ge, xcmp_gt, xcmp_le, xfg_0, xfg_1, xfg_2, xfg_3, xfg_4, xpop_0, xpop_s, xsw_n, xsw_c, xtb_n, xtb_c, xenp_n, xenp_i, xenp_r, xenp_z, xenp_l, xrep_0, xrep_s, Nat.reduceSub, true_and, and_true, cat_i, cat_r, Nat.reduceAdd, Nat.reduceLT, Nat.reduceLeDiff, Nat.reduceEqDiff, xnc, Int.reduceAdd, Int.reduceSub, Int.reduceNeg, Int.reduceLE, Int.reduceLT, Int.reduceToNat, ↓reduceIte, List.length_cons, List.length_nil, xlc0, xlc1, ite_10, i10, i01, i0_2, i0_3, i0_4, i0_6, i0_7, i0_8, i0_49, i0_10, or_true, true_or, or_false, false_or, not_false_eq_true, not_true_eq_false, xnt, xI_g, eq_self, xI_2, xJ_1, false_and, and_false, obT_t, obS_t, ob6_t, ob2_t, ob0_t, kT1_t, kT2_t, kT3_t, kT4_t, lT1, lT2, rT6, rT7, rT8, rT9, rT1i, rT2i, rS2, kSe_t, lSe, r0_0, r0_1, r0_2, r0_3, r0_4, r0_5, r0_6, r0_7, r0_8, r0_9, r1_i, r2_4, r2_5, r4_4, a1_t, a3_t, a5_t, a6_t, a7_t, a8_t, l1, l3, l5, l6, l7, l8, T1, T2, T3, T4, nI8, nI6, nI160, nI20, nI401, nI49, ob5_t, ob1_t, vp_tn, tn_def, lgc, dX6_survives_0, st_iload_n, dX6_survives_1, st_sipush, dX6_survives_4, st_invokestatic, dX6_survives_7, st_ifCond, dX6_survives_10, st_aload_n, dX6_survives_11, st_bipush, dX6_survives_13, st_invokevirtual, dX6_survives_16, st_ireturn, dX6_survives_17, dX6_survives_18, dX6_survives_19, dX6_survives_22, st_pop, dX6_survives_23, st_iconst, dX6_survives_24, st_istore_n, dX6_survives_25, dX6_survives_26, dX6_survives_27, dX6_survives_28, dX6_survives_29, st_getfield, fl_X6_22, dX6_survives_32, fl_X6_213, dX6_survives_35, st_if_icmp, dX6_survives_38, dX6_survives_39, dX6_survives_40, dX6_survives_41, dX6_survives_44, dX6_survives_45, dX6_survives_48, fl_X6_216, dX6_survives_51, st_ishl, dX6_survives_52, st_ior, dX6_survives_53, dX6_survives_54, st_iinc, dX6_survives_57, st_goto, dX6_survives_60, dX6_survives_61, c_X6_survives_110, pX6_isUpTo_e, fX6_isUpTo_e, Option.toList_some, Option.toList_none, List.cons_append, List.nil_append, c_X6_survives_66, pX6_refuse_e, fX6_refuse_e, c_X6_survives_207, pX6_think_e, fX6_think_e, c_X6_survives_114, pX4_who_e, fX4_who_e, ofI_400, ofI_m6, ofI_0, ofJ_1, hp1, hp2, hp3, thX_k]
    have hc := le_nI_tn (i := i) (x := σ.1 100 2) hi
    have e1 : nI i + 1 = nI (i + 1) := nI_1 i
    refine ⟨fun h => ?_, fun h => ?_⟩
    · have hn : i = tn (σ.1 100 2) := by rw [hc] at h; omega
      rw [hR2, ← hn]
    · have hn : i < tn (σ.1 100 2) := by rw [hc] at h; omega
      have h6 : i < 6 := by omega
      have e2 : svI (thX σ n) i ||| xshl 1 ((thX σ n).1 (200 + 20 + i) 3) = svI (thX σ n) (i + 1) := rfl
      simp only [whoK_n h6, e1, e2]
      exact ⟨hn, trivial⟩
  · simp -implicitDefEqProofs only [xwp_2, xwp_0, xwp_1, xws_s, xdd_o, xld_0, xld_s, xs1_0, xs1_1, xs1_s, xs2_0, xs2_1, xs2_s, xlg_n, xlg_i, xlg_r, xlg_z, xlg_l, xf4_0, xf4_1, xf4_2, xf4_3, xgo_e, xcmp_eq, xcmp_ne, xcmp_lt, xcmp_ge, xcmp_gt, xcmp_le, xfg_0, xfg_1, xfg_2, xfg_3, xfg_4, xpop_0, xpop_s, xsw_n, xsw_c, xtb_n, xtb_c, xenp_n, xenp_i, xenp_r, xenp_z, xenp_l, xrep_0, xrep_s, Nat.reduceSub, true_and, and_true, cat_i, cat_r, Nat.reduceAdd, Nat.reduceLT, Nat.reduceLeDiff, Nat.reduceEqDiff, xnc, Int.reduceAdd, Int.reduceSub, Int.reduceNeg, Int.reduceLE, Int.reduceLT, Int.reduceToNat, ↓reduceIte, List.length_cons, List.length_nil, xlc0, xlc1, ite_10, i10, i01, i0_2, i0_3, i0_4, i0_6, i0_7, i0_8, i0_49, i0_10, or_true, true_or, or_false, false_or, not_false_eq_true, not_true_eq_false, xnt, xI_g, eq_self, xI_2, xJ_1, false_and, and_false, obT_t, obS_t, ob6_t, ob2_t, ob0_t, kT1_t, kT2_t, kT3_t, kT4_t, lT1, lT2, rT6, rT7, rT8, rT9, rT1i, rT2i, rS2, kSe_t, lSe, r0_0, r0_1, r0_2, r0_3, r0_4, r0_5, r0_6, r0_7, r0_8, r0_9, r1_i, r2_4, r2_5, r4_4, a1_t, a3_t, a5_t, a6_t, a7_t, a8_t, l1, l3, l5, l6, l7, l8, T1, T2, T3, T4, nI8, nI6, nI160, nI20, nI401, nI49, ob5_t, ob1_t, vp_tn, tn_def, lgc, dX6_survives_0, st_iload_n, dX6_survives_1, st_sipush, dX6_survives_4, st_invokestatic, dX6_survives_7, st_ifCond, dX6_survives_10, st_aload_n, dX6_survives_11, st_bipush, dX6_survives_13, st_invokevirtual, dX6_survives_16, st_ireturn, dX6_survives_17, dX6_survives_18, dX6_survives_19, dX6_survives_22, st_pop, dX6_survives_23, st_iconst, dX6_survives_24, st_istore_n, dX6_survives_25, dX6_survives_26, dX6_survives_27, dX6_survives_28, dX6_survives_29, st_getfield, fl_X6_22, dX6_survives_32, fl_X6_213, dX6_survives_35, st_if_icmp, dX6_survives_38, dX6_survives_39, dX6_survives_40, dX6_survives_41, dX6_survives_44, dX6_survives_45, dX6_survives_48, fl_X6_216, dX6_survives_51, st_ishl, dX6_survives_52, st_ior, dX6_survives_53, dX6_survives_54, st_iinc, dX6_survives_57, st_goto, dX6_survives_60, dX6_survives_61, c_X6_survives_110, pX6_isUpTo_e, fX6_isUpTo_e, Option.toList_some, Option.toList_none, List.cons_append, List.nil_append, c_X6_survives_66, pX6_refuse_e, fX6_refuse_e, c_X6_survives_207, pX6_think_e, fX6_think_e, c_X6_survives_114, pX4_who_e, fX4_who_e, ofI_400, ofI_m6, ofI_0, ofJ_1, hp1, hp2, hp3]
    simp only [hR2, surX, noX]
    clear hR hR2
    have zz : nI 0 = 0 := rfl
    have zs : svI (thX σ n) 0 = 0 := rfl
    simp only [zz, zs]
    grind (splits := 40)
theorem rX6_survives : ∀ as σ, pX6_survives as σ → ∃ K as', as = .ref K :: as' ∧ xob WX K 6 := by
  rintro as σ ⟨n, rfl, hpre⟩
  exact ⟨_, _, rfl, by first | exact hpre | exact hpre.1 | exact obT hpre | exact obT hpre.1 | exact obS hpre | exact obS hpre.1 | exact obM | exact ob6 | exact ob2 | exact ob0⟩
def pX6_alike (as : List Value) (σ : xS) : Prop := as = [.ref 0] ∧ ((0 ≤ σ.1 100 2) ∧ (σ.1 100 2 ≤ 6) ∧ (σ.1 100 1 ≤ 8))
def fX6_alike (as : List Value) (σ : xS) : Option Value × xS := match as with
  | [.ref 0] => (some (.int (aliX σ).1), (aliX σ).2)
  | _ => (none, σ)
theorem pX6_alike_e {σ : xS} : pX6_alike [.ref 0] σ = ((0 ≤ σ.1 100 2) ∧ (σ.1 100 2 ≤ 6) ∧ (σ.1 100 1 ≤ 8)) := propext ⟨fun h => h.2, fun h => ⟨rfl, h⟩⟩
theorem fX6_alike_e  {σ : xS} : fX6_alike [.ref 0] σ = (some (.int (aliX σ).1), (aliX σ).2) := rfl
def calX6_alike : List (Nat × xCall) := [(207, (false, 2, pX6_think, fX6_think)), (114, (false, 2, pX4_who, fX4_who)), (236, (false, 2, pX4_haveAll, fX4_haveAll)), (219, (false, 1, pX4_goBeat, fX4_goBeat))]
theorem c_X6_alike_207 : xlk calX6_alike 207 = some (false, 2, pX6_think, fX6_think) := rfl
theorem c_X6_alike_114 : xlk calX6_alike 114 = some (false, 2, pX4_who, fX4_who) := rfl
theorem c_X6_alike_236 : xlk calX6_alike 236 = some (false, 2, pX4_haveAll, fX4_haveAll) := rfl
theorem c_X6_alike_219 : xlk calX6_alike 219 = some (false, 1, pX4_goBeat, fX4_goBeat) := rfl
set_option maxHeartbeats 4000000 in
set_option maxRecDepth 100000 in
theorem mX6_alike : xMet WX yX6_alike cX6_alike 2 (some .int) 7 pX6_alike fX6_alike := by
  refine xMet_of (fld := xlk fldX6) (cal := xlk calX6_alike) (ks := xlk []) (gs := xlk []) (ro := fun _ => none) 0 (by decide) WX_nd rfl fldX6_ok xKs_nil xGs_nil (Or.inr rfl) (xcal_cons (xCk_V mX6_think 6 (by decide) (by decide) (by decide) rfl (fun as σ h _ => rX6_think as σ h) w_X6_207 ⟨by decide, by decide, by decide +kernel⟩) (xcal_cons (xCk_V mX4_who 4 (by decide) (by decide) (by decide) rfl (fun as σ h _ => rX4_who as σ h) w_X6_114 ⟨by decide, by decide, by decide +kernel⟩) (xcal_cons (xCk_V mX4_haveAll 4 (by decide) (by decide) (by decide) rfl (fun as σ h _ => rX4_haveAll as σ h) w_X6_236 ⟨by decide, by decide, by decide +kernel⟩) (xcal_cons (xCk_V mX4_goBeat 4 (by decide) (by decide) (by decide) rfl (fun as σ h _ => rX4_goBeat as σ h) w_X6_219 ⟨by decide, by decide, by decide +kernel⟩) xcal_nil)))) ?_ ?_
  · rintro av σ ⟨rfl, hpre⟩
    exact Nat.le_of_ble_eq_true rfl
  rintro av σ ⟨rfl, ⟨hp1, hp2, hp3⟩⟩ Rt hR
  have hR2 := hR2_g (Rt := Rt) (F := aliX σ) (fun r s' => by rw [hR, fX6_alike_e])
  have z1 : ∀ b, (gbX 200 b (thX σ 0)).1 200 2 = σ.1 100 2 := fun b => by rw [gbX_B, thX_k]
  refine xto 8 (fun L st t =>  L = ([some (.ref 0), some (.int (nI 0))]) ∧ st = [] ∧ t = (gbX 200 0 (thX σ 0))) 50 ?_ ?_
  · rintro L st t ⟨rfl, rfl, rfl⟩
    rw [aliX] at hR2
    refine xfor 8 401 70 (fun i => [some (.ref 0), some (.int (nI i))]) (fun i => gbX 200 i (thX σ 0)) (fun i => ∀ j, j < i → alP σ j = false) (fun i hi hH => ?_) 0 (Nat.zero_le _) (fun j hj => by omega)
    simp -implicitDefEqProofs only [xwp_2, xwp_0, xwp_1, xws_s, xdd_o, xld_0, xld_s, xs1_0, xs1_1, xs1_s, xs2_0, xs2_1, xs2_s, xlg_n, xlg_i, xlg_r, xlg_z, xlg_l, xf4_0, xf4_1, xf4_2, xf4_3, xgo_e, xcmp_eq, xcmp_ne, xcmp_lt, xcmp_ge, xcmp_gt, xcmp_le, xfg_0, xfg_1, xfg_2, xfg_3, xfg_4, xpop_0, xpop_s, xsw_n, xsw_c, xtb_n, xtb_c, xenp_n, xenp_i, xenp_r, xenp_z, xenp_l, xrep_0, xrep_s, Nat.reduceSub, true_and, and_true, cat_i, cat_r, Nat.reduceAdd, Nat.reduceLT, Nat.reduceLeDiff, Nat.reduceEqDiff, xnc, Int.reduceAdd, Int.reduceSub, Int.reduceNeg, Int.reduceLE, Int.reduceLT, Int.reduceToNat, ↓reduceIte, List.length_cons, List.length_nil, xlc0, xlc1, ite_10, i10, i01, i0_2, i0_3, i0_4, i0_6, i0_7, i0_8, i0_49, i0_10, or_true, true_or, or_false, false_or, not_false_eq_true, not_true_eq_false, xnt, xI_g, eq_self, xI_2, xJ_1, false_and, and_false, obT_t, obS_t, ob6_t, ob2_t, ob0_t, kT1_t, kT2_t, kT3_t, kT4_t, lT1, lT2, rT6, rT7, rT8, rT9, rT1i, rT2i, rS2, kSe_t, lSe, r0_0, r0_1, r0_2, r0_3, r0_4, r0_5, r0_6, r0_7, r0_8, r0_9, r1_i, r2_4, r2_5, r4_4, a1_t, a3_t, a5_t, a6_t, a7_t, a8_t, l1, l3, l5, l6, l7, l8, T1, T2, T3, T4, nI8, nI6, nI160, nI20, nI401, nI49, ob5_t, ob1_t, vp_tn, tn_def, lgc, dX6_alike_0, st_aload_n, dX6_alike_1, st_iconst, dX6_alike_2, st_invokevirtual, dX6_alike_5, st_pop, dX6_alike_6, dX6_alike_7, st_istore_n, dX6_alike_8, st_iload_n, dX6_alike_9, st_sipush, dX6_alike_12, st_if_icmp, dX6_alike_15, dX6_alike_16, st_getfield, fl_X6_22, dX6_alike_19, dX6_alike_20, dX6_alike_23, dX6_alike_24, dX6_alike_27, fl_X6_216, dX6_alike_30, dX6_alike_33, st_ifCond, dX6_alike_36, dX6_alike_37, st_ireturn, dX6_alike_38, dX6_alike_39, dX6_alike_42, dX6_alike_45, dX6_alike_46, st_iinc, dX6_alike_49, st_goto, dX6_alike_52, dX6_alike_53, c_X6_alike_207, pX6_think_e, fX6_think_e, Option.toList_some, Option.toList_none, List.cons_append, List.nil_append, c_X6_alike_114, pX4_who_e, fX4_who_e, c_X6_alike_236, pX4_haveAll_e, fX4_haveAll_n, c_X6_alike_219, pX4_goBeat_e, fX4_goBeat_e, ofI_0, ofI_400, ofJ_1, ofI_m1, hp1, hp2, hp3, z1]
    have hc : (400 : Int32) < nI i ↔ 400 < i := nI_ltI (a := 400) (by omega) (by omega)
    have e1 : nI i + 1 = nI (i + 1) := nI_1 i
    have e7 : ∀ b, beatX 200 (gbX 200 b (thX σ 0)) = gbX 200 (b + 1) (thX σ 0) := fun b => rfl
    have e5 : alP σ i = decide (haX (gbX 200 i (thX σ 0)) 200 ((gbX 200 i (thX σ 0)).1 (whoK 200 0) 3) = false) := rfl
    skip
    have cont : alP σ i = false → (∀ j, j < i + 1 → alP σ j = false) := fun h2 => xall_s hH h2
    have fin : i = 401 → srX (alP σ) (thX σ 0) = (-1, gbX 200 i (thX σ 0)) := fun h => by
      have e9 := xfs_no (P := alP σ) (n := 401) (fun j hj => hH j (by omega))
      rw [srX, xfirst, e9]
      simp [h]
    have stop : i < 401 → alP σ i = true → srX (alP σ) (thX σ 0) = (nI i, gbX 200 i (thX σ 0)) := fun h1 h2 => by
      have e9 := xfs_at h1 h2 hH
      rw [srX, xfirst, e9]
      simp [h1]
    simp only [hc, e1, e7, hR2]
    clear hR hR2
    grind (splits := 40)
  · simp -implicitDefEqProofs only [xwp_2, xwp_0, xwp_1, xws_s, xdd_o, xld_0, xld_s, xs1_0, xs1_1, xs1_s, xs2_0, xs2_1, xs2_s, xlg_n, xlg_i, xlg_r, xlg_z, xlg_l, xf4_0, xf4_1, xf4_2, xf4_3, xgo_e, xcmp_eq, xcmp_ne, xcmp_lt, xcmp_ge, xcmp_gt, xcmp_le, xfg_0, xfg_1, xfg_2, xfg_3, xfg_4, xpop_0, xpop_s, xsw_n, xsw_c, xtb_n, xtb_c, xenp_n, xenp_i, xenp_r, xenp_z, xenp_l, xrep_0, xrep_s, Nat.reduceSub, true_and, and_true, cat_i, cat_r, Nat.reduceAdd, Nat.reduceLT, Nat.reduceLeDiff, Nat.reduceEqDiff, xnc, Int.reduceAdd, Int.reduceSub, Int.reduceNeg, Int.reduceLE, Int.reduceLT, Int.reduceToNat, ↓reduceIte, List.length_cons, List.length_nil, xlc0, xlc1, ite_10, i10, i01, i0_2, i0_3, i0_4, i0_6, i0_7, i0_8, i0_49, i0_10, or_true, true_or, or_false, false_or, not_false_eq_true, not_true_eq_false, xnt, xI_g, eq_self, xI_2, xJ_1, false_and, and_false, obT_t, obS_t, ob6_t, ob2_t, ob0_t, kT1_t, kT2_t, kT3_t, kT4_t, lT1, lT2, rT6, rT7, rT8, rT9, rT1i, rT2i, rS2, kSe_t, lSe, r0_0, r0_1, r0_2, r0_3, r0_4, r0_5, r0_6, r0_7, r0_8, r0_9, r1_i, r2_4, r2_5, r4_4, a1_t, a3_t, a5_t, a6_t, a7_t, a8_t, l1, l3, l5, l6, l7, l8, T1, T2, T3, T4, nI8, nI6, nI160, nI20, nI401, nI49, ob5_t, ob1_t, vp_tn, tn_def, lgc, dX6_alike_0, st_aload_n, dX6_alike_1, st_iconst, dX6_alike_2, st_invokevirtual, dX6_alike_5, st_pop, dX6_alike_6, dX6_alike_7, st_istore_n, dX6_alike_8, st_iload_n, dX6_alike_9, st_sipush, dX6_alike_12, st_if_icmp, dX6_alike_15, dX6_alike_16, st_getfield, fl_X6_22, dX6_alike_19, dX6_alike_20, dX6_alike_23, dX6_alike_24, dX6_alike_27, fl_X6_216, dX6_alike_30, dX6_alike_33, st_ifCond, dX6_alike_36, dX6_alike_37, st_ireturn, dX6_alike_38, dX6_alike_39, dX6_alike_42, dX6_alike_45, dX6_alike_46, st_iinc, dX6_alike_49, st_goto, dX6_alike_52, dX6_alike_53, c_X6_alike_207, pX6_think_e, fX6_think_e, Option.toList_some, Option.toList_none, List.cons_append, List.nil_append, c_X6_alike_114, pX4_who_e, fX4_who_e, c_X6_alike_236, pX4_haveAll_e, fX4_haveAll_n, c_X6_alike_219, pX4_goBeat_e, fX4_goBeat_e, ofI_0, ofI_400, ofJ_1, ofI_m1, hp1, hp2, hp3]
    try simp only [hR2, aliX]
    clear hR hR2
    have zz : nI 0 = 0 := rfl
    have zg : gbX 200 0 (thX σ 0) = thX σ 0 := rfl
    simp only [zz, zg]
    grind (splits := 40)
theorem rX6_alike : ∀ as σ, pX6_alike as σ → ∃ K as', as = .ref K :: as' ∧ xob WX K 6 := by
  rintro as σ ⟨rfl, hpre⟩
  exact ⟨_, _, rfl, by first | exact hpre | exact hpre.1 | exact obT hpre | exact obT hpre.1 | exact obS hpre | exact obS hpre.1 | exact obM | exact ob6 | exact ob2 | exact ob0⟩
