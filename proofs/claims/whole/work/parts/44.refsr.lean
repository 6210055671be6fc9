/-- looked for, beat by beat -/
def srM (P : Nat → Bool) (τ : xS) : Int32 × xS := (xfirst P 401, baM (gbM (if xfs P 401 < 401 then xfs P 401 else 400) τ))
theorem srM_no {P : Nat → Bool} {τ : xS} (h : xfs P 401 = 401) : srM P τ = (-1, baM (gbM 400 τ)) := by
  rw [srM, xfirst, h, if_neg (Nat.lt_irrefl _), if_neg (Nat.lt_irrefl _)]
theorem srM_at {P : Nat → Bool} {τ : xS} {i : Nat} (h : xfs P 401 = i) (hi : i < 401) : srM P τ = (nI i, baM (gbM i τ)) := by
  rw [srM, xfirst, h, if_pos hi, if_pos hi]
def mrM (P : Nat → Bool) (τ : xS) : Int32 × xS := (if xfs P 400 < 400 then nI (xfs P 400 + 1) else -1, baM (gbM (if xfs P 400 < 400 then xfs P 400 + 1 else 400) τ))
theorem mrM_no {P : Nat → Bool} {τ : xS} (h : xfs P 400 = 400) : mrM P τ = (-1, baM (gbM 400 τ)) := by
  rw [mrM, h, if_neg (Nat.lt_irrefl _), if_neg (Nat.lt_irrefl _)]
theorem mrM_at {P : Nat → Bool} {τ : xS} {i : Nat} (h : xfs P 400 = i) (hi : i < 400) : mrM P τ = (nI (i + 1), baM (gbM (i + 1) τ)) := by
  rw [mrM, h, if_pos hi, if_pos hi]
def foP (T : xS) (g x : Int32) (b : Nat) : Bool := decide (if x = -1 then hvM (gbM b T) g = 0 else (gbM b T).1 15 (tn x) = g)
def foM (σ : xS) (g x : Int32) : Int32 × xS := srM (foP (bgM σ) g x) (bgM σ)
def losM (σ : xS) (g : Int32) : Int32 × xS := if 0 ≤ g ∧ g < σ.1 0 0 then foM σ g (-1) else ntM σ (-1)
def comM (σ : xS) (g x : Int32) : Int32 × xS := if (0 ≤ g ∧ g < σ.1 0 0) ∧ (0 ≤ x ∧ x < σ.1 0 1) then foM σ g x else ntM σ (-1)
def wxP (x : Int32) : Prop := x = -1 ∨ (0 ≤ x ∧ tn x < 6)
theorem wxP_m : wxP (-1) = True := eq_true (Or.inl rfl)
theorem i00 : ((0 : Int32) ≤ 0) = True := eq_true (by decide)
theorem i400 : ((400 : Int32) < 0) = False := eq_false (by decide)
theorem i401 : ((400 : Int32) < 1) = False := eq_false (by decide)
def pX7_firstOf (as : List Value) (σ : xS) : Prop := ∃ (g : Int32) (x : Int32), as = [.ref 0, .int g, .int x] ∧ ((0 ≤ σ.1 0 1) ∧ (σ.1 0 1 ≤ 6) ∧ (BOK (bgM σ)) ∧ (wxP x))
def fX7_firstOf (as : List Value) (σ : xS) : Option Value × xS := match as with
  | [.ref 0, .int g, .int x] => (some (.int (foM σ g x).1), (foM σ g x).2)
  | _ => (none, σ)
theorem pX7_firstOf_e {g : Int32} {x : Int32} {σ : xS} : pX7_firstOf [.ref 0, .int g, .int x] σ = ((0 ≤ σ.1 0 1) ∧ (σ.1 0 1 ≤ 6) ∧ (BOK (bgM σ)) ∧ (wxP x)) := propext ⟨fun h => by obtain ⟨g, x, e, h⟩ := h; cases e; exact h, fun h => ⟨g, x, rfl, h⟩⟩
theorem fX7_firstOf_e {g : Int32} {x : Int32} {σ : xS} : fX7_firstOf [.ref 0, .int g, .int x] σ = (some (.int (foM σ g x).1), (foM σ g x).2) := rfl
def calX7_firstOf : List (Nat × xCall) := [(290, (false, 1, pX7_begins, fX7_begins)), (284, (false, 1, pX7_beats1, fX7_beats1)), (299, (false, 2, pX7_having, fX7_having)), (296, (false, 1, pX7_backAgain, fX7_backAgain))]
theorem c_X7_firstOf_290 : xlk calX7_firstOf 290 = some (false, 1, pX7_begins, fX7_begins) := rfl
theorem c_X7_firstOf_284 : xlk calX7_firstOf 284 = some (false, 1, pX7_beats1, fX7_beats1) := rfl
theorem c_X7_firstOf_299 : xlk calX7_firstOf 299 = some (false, 2, pX7_having, fX7_having) := rfl
theorem c_X7_firstOf_296 : xlk calX7_firstOf 296 = some (false, 1, pX7_backAgain, fX7_backAgain) := rfl
set_option maxHeartbeats 4000000 in
set_option maxRecDepth 100000 in
theorem mX7_firstOf : xMet WM yX7_firstOf cX7_firstOf 5 (some .int) 5 pX7_firstOf fX7_firstOf := by
  refine xMet_of (fld := xlk fldX7) (cal := xlk calX7_firstOf) (ks := xlk []) (gs := xlk []) (ro := fun _ => none) 0 (by decide) WM_nd rfl fldX7_ok xKs_nil xGs_nil (Or.inr rfl) (xcal_cons (xCk_V mX7_begins 7 (by decide) (by decide) (by decide) rfl (fun as σ h _ => rX7_begins as σ h) w_X7_290 ⟨by decide, by decide, by decide +kernel⟩) (xcal_cons (xCk_V mX7_beats1 7 (by decide) (by decide) (by decide) rfl (fun as σ h _ => rX7_beats1 as σ h) w_X7_284 ⟨by decide, by decide, by decide +kernel⟩) (xcal_cons (xCk_V mX7_having 7 (by decide) (by decide) (by decide) rfl (fun as σ h _ => rX7_having as σ h) w_X7_299 ⟨by decide, by decide, by decide +kernel⟩) (xcal_cons (xCk_V mX7_backAgain 7 (by decide) (by decide) (by decide) rfl (fun as σ h _ => rX7_backAgain as σ h) w_X7_296 ⟨by decide, by decide, by decide +kernel⟩) xcal_nil)))) ?_ ?_
  · rintro av σ ⟨g, x, rfl, hpre⟩
    exact Nat.le_of_ble_eq_true rfl
  rintro av σ ⟨g, x, rfl, ⟨hp1, hp2, hp3, hp4⟩⟩ Rt hR
  have hR2 := hR2_g (Rt := Rt) (F := foM σ g x) (fun r s' => by rw [hR, fX7_firstOf_e])
  clear hR
  unfold foM at hR2
  by_cases hx : x = -1
  · subst hx
    have hB := BOK_e hp3
    have hwk := xwk6 hp2
    generalize hT : bgM σ = T at *
    have hT0 : ∀ b, T.1 0 b = σ.1 0 b := fun b => by rw [← hT, bgM_k]
    have h1 : ∀ i, i ≤ 400 → (∀ j, j < i → foP T g (-1) j = false) → xGo WM 5 (xlk fldX7) (xlk calX7_firstOf) (xlk []) (xlk []) (fun _ => none) 0 cX7_firstOf Rt 32 [some (.ref 0), some (.int g), some (.int (-1)), some (.int (-1)), some (.int (nI i))] [] (gbM i T) := by
      refine xcount (400) (fun i => (∀ j, j < i → foP T g (-1) j = false) → xGo WM 5 (xlk fldX7) (xlk calX7_firstOf) (xlk []) (xlk []) (fun _ => none) 0 cX7_firstOf Rt 32 [some (.ref 0), some (.int g), some (.int (-1)), some (.int (-1)), some (.int (nI i))] [] (gbM i T)) (fun i hi ih hH => ?_)
      have hc : (400 : Int32) < nI (i + 1) ↔ 400 < i + 1 := nI_ltI (a := 400) (by omega) (by omega)
      have hc2 : nI (i + 1) ≤ 0 ↔ i + 1 ≤ 0 := nI_leI (b := 0) (by omega) (by omega)
      have hni : (nI i = -1) = False := eq_false (fun q => by
        have h1 := nI_pos' (n := i) (by omega)
        rw [q] at h1
        exact absurd h1 (by decide))
      have e1 : nI i + 1 = nI (i + 1) := nI_1 i
      have hBi := hB i
      have hbe : beM (gbM i T) = gbM (i + 1) T := rfl
      refine xtoCs [(32, xPc (i < 400 ∧ (∀ j, j < (i + 1) → foP T g (-1) j = false)) [some (.ref 0), some (.int g), some (.int (-1)), some (.int (-1)), some (.int (nI (i + 1)))] (gbM (i + 1) T))] (xcs_cons (fun q => ih q.1 q.2) xcs_nil) 32 (fun cf hcf => ?_)
      have k32 : cf 32 = some (xPc (i < 400 ∧ (∀ j, j < (i + 1) → foP T g (-1) j = false)) [some (.ref 0), some (.int g), some (.int (-1)), some (.int (-1)), some (.int (nI (i + 1)))] (gbM (i + 1) T)) := (hcf 32).trans rfl
      have kn : ∀ pc, ¬ pc = 32 → cf pc = none := fun pc h0 => by rw [hcf, xlk_c, if_neg h0, xlk_n]
      clear hcf
      simp (config := {maxSteps := 4000000, implicitDefEqProofs := false}) only [xwp_2, xwp_0, xwp_1, xws_s, xdd_o, xld_0, xld_s, xs1_0, xs1_1, xs1_s, xs2_0, xs2_1, xs2_s, xlg_n, xlg_i, xlg_r, xlg_z, xlg_l, xf4_0, xf4_1, xf4_2, xf4_3, xgo_e, xcmp_eq, xcmp_ne, xcmp_lt, xcmp_ge, xcmp_gt, xcmp_le, xfg_0, xfg_1, xfg_2, xfg_3, xfg_4, xpop_0, xpop_s, xsw_n, xsw_c, xtb_n, xtb_c, xenp_n, xenp_i, xenp_r, xenp_z, xenp_l, xrep_0, xrep_s, Nat.reduceSub, true_and, and_true, cat_i, cat_r, Nat.reduceAdd, Nat.reduceLT, Nat.reduceLeDiff, Nat.reduceEqDiff, xnc, Int.reduceAdd, Int.reduceSub, Int.reduceNeg, Int.reduceLE, Int.reduceLT, Int.reduceToNat, ↓reduceIte, List.length_cons, List.length_nil, xlc0, xlc1, ite_10, i10, i01, i0_2, i0_3, i0_4, i0_6, i0_7, i0_8, i0_49, i0_10, or_true, true_or, or_false, false_or, not_false_eq_true, not_true_eq_false, xnt, xI_g, eq_self, xI_2, xJ_1, false_and, and_false, obM_t, rMi, vp_tn, tn_def, lgc, nI8, nI6, nI160, nI20, nI401, nI49, aM_6, aM_7, aM_8, aM_9, aM_10, aM_11, aM_12, aM_13, aM_14, aM_15, aM_16, aM_17, aM_18, aM_19, aM_20, aM_21, aM_22, aM_23, aM_24, aM_25, aM_26, aM_27, aM_28, aM_29, aM_30, aM_31, aM_38, aM_39, aM_40, aM_41, aM_42, aM_43, aM_44, aM_45, aM_46, aM_47, lM_6, lM_7, lM_8, lM_9, lM_10, lM_11, lM_12, lM_13, lM_14, lM_15, lM_16, lM_17, lM_18, lM_19, lM_20, lM_21, lM_22, lM_23, lM_24, lM_25, lM_26, lM_27, lM_28, lM_29, lM_30, lM_31, lM_38, lM_39, lM_40, lM_41, lM_42, lM_43, lM_44, lM_45, lM_46, lM_47, dX7_firstOf_0, st_aload_n, dX7_firstOf_1, st_invokevirtual, dX7_firstOf_4, st_iconst, dX7_firstOf_5, st_istore_n, dX7_firstOf_6, dX7_firstOf_7, st_istore, dX7_firstOf_9, st_iload, dX7_firstOf_11, st_sipush, dX7_firstOf_14, st_if_icmp, dX7_firstOf_17, st_iload_n, dX7_firstOf_18, dX7_firstOf_19, dX7_firstOf_22, dX7_firstOf_24, st_ifCond, dX7_firstOf_27, dX7_firstOf_28, dX7_firstOf_31, st_pop, dX7_firstOf_32, dX7_firstOf_33, dX7_firstOf_34, dX7_firstOf_37, dX7_firstOf_38, dX7_firstOf_39, dX7_firstOf_42, dX7_firstOf_45, st_goto, dX7_firstOf_48, dX7_firstOf_49, st_getfield, fl_X7_44, dX7_firstOf_52, dX7_firstOf_53, st_iaload, dX7_firstOf_54, dX7_firstOf_55, dX7_firstOf_58, dX7_firstOf_60, dX7_firstOf_61, st_iinc, dX7_firstOf_64, dX7_firstOf_67, dX7_firstOf_68, dX7_firstOf_71, dX7_firstOf_72, st_ireturn, c_X7_firstOf_290, pX7_begins_e, fX7_begins_e, Option.toList_some, Option.toList_none, List.cons_append, List.nil_append, c_X7_firstOf_284, pX7_beats1_e, fX7_beats1_e, c_X7_firstOf_299, pX7_having_e, fX7_having_e, c_X7_firstOf_296, pX7_backAgain_e, fX7_backAgain_e, ofI_m1, ofI_0, ofI_400, ofJ_1, hp1, hp2, hp3, hp4, xwp_s, xcu_s, xcu_n, xPc_e, xsub_0, xsub_n, xsub_s, k32, kn, hc, hc2, hni, e1, gbM_k, hT0, hBi, hbe]
      have e5 : foP T g (-1) i = decide (if (-1 : Int32) = -1 then hvM (gbM i T) g = 0 else (gbM i T).1 15 (tn (-1)) = g) := rfl
      have cont : foP T g (-1) i = false → (∀ j, j < i + 1 → foP T g (-1) j = false) := fun h2 => xall_s hH h2
      have fin : i = 400 → foP T g (-1) i = false → srM (foP T g (-1)) T = (-1, baM (gbM i T)) := fun h h2 => by
        have h9 : ∀ j, j < 401 → foP T g (-1) j = false := fun j hj => cont h2 j (by omega)
        have h8 : xfs (foP T g (-1)) 401 = 401 := xfs_no h9
        rw [srM_no h8, h]
      have stop : foP T g (-1) i = true → srM (foP T g (-1)) T = (nI i, baM (gbM i T)) := fun h2 => by
        have h8 : xfs (foP T g (-1)) 401 = i := xfs_at (by omega) h2 hH
        exact srM_at h8 (by omega)
      simp only [hR2]
      clear hR2 hc ih hB hT0 hBi hbe hni
      skip
      grind (splits := 40)
    refine xtoC [(32, xPc (True) [some (.ref 0), some (.int g), some (.int (-1)), some (.int (-1)), some (.int (nI 0))] (gbM 0 T))] (xcs_cons (fun _ => h1 0 (Nat.zero_le _) (fun j hj => by omega)) xcs_nil) 40 (fun cf hcf => ?_)
    have k32 : cf 32 = some (xPc (True) [some (.ref 0), some (.int g), some (.int (-1)), some (.int (-1)), some (.int (nI 0))] (gbM 0 T)) := (hcf 32).trans rfl
    have kn : ∀ pc, ¬ pc = 32 → cf pc = none := fun pc h0 => by rw [hcf, xlk_c, if_neg h0, xlk_n]
    clear hcf
    simp (config := {maxSteps := 4000000, implicitDefEqProofs := false}) only [xwp_2, xwp_0, xwp_1, xws_s, xdd_o, xld_0, xld_s, xs1_0, xs1_1, xs1_s, xs2_0, xs2_1, xs2_s, xlg_n, xlg_i, xlg_r, xlg_z, xlg_l, xf4_0, xf4_1, xf4_2, xf4_3, xgo_e, xcmp_eq, xcmp_ne, xcmp_lt, xcmp_ge, xcmp_gt, xcmp_le, xfg_0, xfg_1, xfg_2, xfg_3, xfg_4, xpop_0, xpop_s, xsw_n, xsw_c, xtb_n, xtb_c, xenp_n, xenp_i, xenp_r, xenp_z, xenp_l, xrep_0, xrep_s, Nat.reduceSub, true_and, and_true, cat_i, cat_r, Nat.reduceAdd, Nat.reduceLT, Nat.reduceLeDiff, Nat.reduceEqDiff, xnc, Int.reduceAdd, Int.reduceSub, Int.reduceNeg, Int.reduceLE, Int.reduceLT, Int.reduceToNat, ↓reduceIte, List.length_cons, List.length_nil, xlc0, xlc1, ite_10, i10, i01, i0_2, i0_3, i0_4, i0_6, i0_7, i0_8, i0_49, i0_10, or_true, true_or, or_false, false_or, not_false_eq_true, not_true_eq_false, xnt, xI_g, eq_self, xI_2, xJ_1, false_and, and_false, obM_t, rMi, vp_tn, tn_def, lgc, nI8, nI6, nI160, nI20, nI401, nI49, aM_6, aM_7, aM_8, aM_9, aM_10, aM_11, aM_12, aM_13, aM_14, aM_15, aM_16, aM_17, aM_18, aM_19, aM_20, aM_21, aM_22, aM_23, aM_24, aM_25, aM_26, aM_27, aM_28, aM_29, aM_30, aM_31, aM_38, aM_39, aM_40, aM_41, aM_42, aM_43, aM_44, aM_45, aM_46, aM_47, lM_6, lM_7, lM_8, lM_9, lM_10, lM_11, lM_12, lM_13, lM_14, lM_15, lM_16, lM_17, lM_18, lM_19, lM_20, lM_21, lM_22, lM_23, lM_24, lM_25, lM_26, lM_27, lM_28, lM_29, lM_30, lM_31, lM_38, lM_39, lM_40, lM_41, lM_42, lM_43, lM_44, lM_45, lM_46, lM_47, dX7_firstOf_0, st_aload_n, dX7_firstOf_1, st_invokevirtual, dX7_firstOf_4, st_iconst, dX7_firstOf_5, st_istore_n, dX7_firstOf_6, dX7_firstOf_7, st_istore, dX7_firstOf_9, st_iload, dX7_firstOf_11, st_sipush, dX7_firstOf_14, st_if_icmp, dX7_firstOf_17, st_iload_n, dX7_firstOf_18, dX7_firstOf_19, dX7_firstOf_22, dX7_firstOf_24, st_ifCond, dX7_firstOf_27, dX7_firstOf_28, dX7_firstOf_31, st_pop, dX7_firstOf_32, dX7_firstOf_33, dX7_firstOf_34, dX7_firstOf_37, dX7_firstOf_38, dX7_firstOf_39, dX7_firstOf_42, dX7_firstOf_45, st_goto, dX7_firstOf_48, dX7_firstOf_49, st_getfield, fl_X7_44, dX7_firstOf_52, dX7_firstOf_53, st_iaload, dX7_firstOf_54, dX7_firstOf_55, dX7_firstOf_58, dX7_firstOf_60, dX7_firstOf_61, st_iinc, dX7_firstOf_64, dX7_firstOf_67, dX7_firstOf_68, dX7_firstOf_71, dX7_firstOf_72, st_ireturn, c_X7_firstOf_290, pX7_begins_e, fX7_begins_e, Option.toList_some, Option.toList_none, List.cons_append, List.nil_append, c_X7_firstOf_284, pX7_beats1_e, fX7_beats1_e, c_X7_firstOf_299, pX7_having_e, fX7_having_e, c_X7_firstOf_296, pX7_backAgain_e, fX7_backAgain_e, ofI_m1, ofI_0, ofI_400, ofJ_1, hp1, hp2, hp3, hp4, xwp_s, xcu_s, xcu_n, xPc_e, xsub_0, xsub_n, xsub_s, k32, kn, nI_00, gbM_0, hT, i00, i400]
    try simp
  · have hx6 := hp4.resolve_left hx
    have hx1 := hx6.1
    have hx2 := hx6.2
    have hB := BOK_e hp3
    have hwk := xwk6 hp2
    generalize hT : bgM σ = T at *
    have hT0 : ∀ b, T.1 0 b = σ.1 0 b := fun b => by rw [← hT, bgM_k]
    have h1 : ∀ i, i ≤ 400 → (∀ j, j < i → foP T g x j = false) → xGo WM 5 (xlk fldX7) (xlk calX7_firstOf) (xlk []) (xlk []) (fun _ => none) 0 cX7_firstOf Rt 32 [some (.ref 0), some (.int g), some (.int x), some (.int (-1)), some (.int (nI i))] [] (gbM i T) := by
      refine xcount (400) (fun i => (∀ j, j < i → foP T g x j = false) → xGo WM 5 (xlk fldX7) (xlk calX7_firstOf) (xlk []) (xlk []) (fun _ => none) 0 cX7_firstOf Rt 32 [some (.ref 0), some (.int g), some (.int x), some (.int (-1)), some (.int (nI i))] [] (gbM i T)) (fun i hi ih hH => ?_)
      have hc : (400 : Int32) < nI (i + 1) ↔ 400 < i + 1 := nI_ltI (a := 400) (by omega) (by omega)
      have hc2 : nI (i + 1) ≤ 0 ↔ i + 1 ≤ 0 := nI_leI (b := 0) (by omega) (by omega)
      have hni : (nI i = -1) = False := eq_false (fun q => by
        have h1 := nI_pos' (n := i) (by omega)
        rw [q] at h1
        exact absurd h1 (by decide))
      have e1 : nI i + 1 = nI (i + 1) := nI_1 i
      have hBi := hB i
      have hbe : beM (gbM i T) = gbM (i + 1) T := rfl
      refine xtoCs [(32, xPc (i < 400 ∧ (∀ j, j < (i + 1) → foP T g x j = false)) [some (.ref 0), some (.int g), some (.int x), some (.int (-1)), some (.int (nI (i + 1)))] (gbM (i + 1) T))] (xcs_cons (fun q => ih q.1 q.2) xcs_nil) 32 (fun cf hcf => ?_)
      have k32 : cf 32 = some (xPc (i < 400 ∧ (∀ j, j < (i + 1) → foP T g x j = false)) [some (.ref 0), some (.int g), some (.int x), some (.int (-1)), some (.int (nI (i + 1)))] (gbM (i + 1) T)) := (hcf 32).trans rfl
      have kn : ∀ pc, ¬ pc = 32 → cf pc = none := fun pc h0 => by rw [hcf, xlk_c, if_neg h0, xlk_n]
      clear hcf
      simp (config := {maxSteps := 4000000, implicitDefEqProofs := false}) only [xwp_2, xwp_0, xwp_1, xws_s, xdd_o, xld_0, xld_s, xs1_0, xs1_1, xs1_s, xs2_0, xs2_1, xs2_s, xlg_n, xlg_i, xlg_r, xlg_z, xlg_l, xf4_0, xf4_1, xf4_2, xf4_3, xgo_e, xcmp_eq, xcmp_ne, xcmp_lt, xcmp_ge, xcmp_gt, xcmp_le, xfg_0, xfg_1, xfg_2, xfg_3, xfg_4, xpop_0, xpop_s, xsw_n, xsw_c, xtb_n, xtb_c, xenp_n, xenp_i, xenp_r, xenp_z, xenp_l, xrep_0, xrep_s, Nat.reduceSub, true_and, and_true, cat_i, cat_r, Nat.reduceAdd, Nat.reduceLT, Nat.reduceLeDiff, Nat.reduceEqDiff, xnc, Int.reduceAdd, Int.reduceSub, Int.reduceNeg, Int.reduceLE, Int.reduceLT, Int.reduceToNat, ↓reduceIte, List.length_cons, List.length_nil, xlc0, xlc1, ite_10, i10, i01, i0_2, i0_3, i0_4, i0_6, i0_7, i0_8, i0_49, i0_10, or_true, true_or, or_false, false_or, not_false_eq_true, not_true_eq_false, xnt, xI_g, eq_self, xI_2, xJ_1, false_and, and_false, obM_t, rMi, vp_tn, tn_def, lgc, nI8, nI6, nI160, nI20, nI401, nI49, aM_6, aM_7, aM_8, aM_9, aM_10, aM_11, aM_12, aM_13, aM_14, aM_15, aM_16, aM_17, aM_18, aM_19, aM_20, aM_21, aM_22, aM_23, aM_24, aM_25, aM_26, aM_27, aM_28, aM_29, aM_30, aM_31, aM_38, aM_39, aM_40, aM_41, aM_42, aM_43, aM_44, aM_45, aM_46, aM_47, lM_6, lM_7, lM_8, lM_9, lM_10, lM_11, lM_12, lM_13, lM_14, lM_15, lM_16, lM_17, lM_18, lM_19, lM_20, lM_21, lM_22, lM_23, lM_24, lM_25, lM_26, lM_27, lM_28, lM_29, lM_30, lM_31, lM_38, lM_39, lM_40, lM_41, lM_42, lM_43, lM_44, lM_45, lM_46, lM_47, dX7_firstOf_0, st_aload_n, dX7_firstOf_1, st_invokevirtual, dX7_firstOf_4, st_iconst, dX7_firstOf_5, st_istore_n, dX7_firstOf_6, dX7_firstOf_7, st_istore, dX7_firstOf_9, st_iload, dX7_firstOf_11, st_sipush, dX7_firstOf_14, st_if_icmp, dX7_firstOf_17, st_iload_n, dX7_firstOf_18, dX7_firstOf_19, dX7_firstOf_22, dX7_firstOf_24, st_ifCond, dX7_firstOf_27, dX7_firstOf_28, dX7_firstOf_31, st_pop, dX7_firstOf_32, dX7_firstOf_33, dX7_firstOf_34, dX7_firstOf_37, dX7_firstOf_38, dX7_firstOf_39, dX7_firstOf_42, dX7_firstOf_45, st_goto, dX7_firstOf_48, dX7_firstOf_49, st_getfield, fl_X7_44, dX7_firstOf_52, dX7_firstOf_53, st_iaload, dX7_firstOf_54, dX7_firstOf_55, dX7_firstOf_58, dX7_firstOf_60, dX7_firstOf_61, st_iinc, dX7_firstOf_64, dX7_firstOf_67, dX7_firstOf_68, dX7_firstOf_71, dX7_firstOf_72, st_ireturn, c_X7_firstOf_290, pX7_begins_e, fX7_begins_e, Option.toList_some, Option.toList_none, List.cons_append, List.nil_append, c_X7_firstOf_284, pX7_beats1_e, fX7_beats1_e, c_X7_firstOf_299, pX7_having_e, fX7_having_e, c_X7_firstOf_296, pX7_backAgain_e, fX7_backAgain_e, ofI_m1, ofI_0, ofI_400, ofJ_1, hp1, hp2, hp3, hp4, xwp_s, xcu_s, xcu_n, xPc_e, xsub_0, xsub_n, xsub_s, k32, kn, hc, hc2, hni, e1, gbM_k, hT0, hBi, hbe, hx, hx1, hx2]
      have e5 : foP T g x i = decide (if x = -1 then hvM (gbM i T) g = 0 else (gbM i T).1 15 (tn x) = g) := rfl
      have cont : foP T g x i = false → (∀ j, j < i + 1 → foP T g x j = false) := fun h2 => xall_s hH h2
      have fin : i = 400 → foP T g x i = false → srM (foP T g x) T = (-1, baM (gbM i T)) := fun h h2 => by
        have h9 : ∀ j, j < 401 → foP T g x j = false := fun j hj => cont h2 j (by omega)
        have h8 : xfs (foP T g x) 401 = 401 := xfs_no h9
        rw [srM_no h8, h]
      have stop : foP T g x i = true → srM (foP T g x) T = (nI i, baM (gbM i T)) := fun h2 => by
        have h8 : xfs (foP T g x) 401 = i := xfs_at (by omega) h2 hH
        exact srM_at h8 (by omega)
      simp only [hR2]
      clear hR2 hc ih hB hT0 hBi hbe hni
      skip
      grind (splits := 40)
    refine xtoC [(32, xPc (True) [some (.ref 0), some (.int g), some (.int x), some (.int (-1)), some (.int (nI 0))] (gbM 0 T))] (xcs_cons (fun _ => h1 0 (Nat.zero_le _) (fun j hj => by omega)) xcs_nil) 40 (fun cf hcf => ?_)
    have k32 : cf 32 = some (xPc (True) [some (.ref 0), some (.int g), some (.int x), some (.int (-1)), some (.int (nI 0))] (gbM 0 T)) := (hcf 32).trans rfl
    have kn : ∀ pc, ¬ pc = 32 → cf pc = none := fun pc h0 => by rw [hcf, xlk_c, if_neg h0, xlk_n]
    clear hcf
    simp (config := {maxSteps := 4000000, implicitDefEqProofs := false}) only [xwp_2, xwp_0, xwp_1, xws_s, xdd_o, xld_0, xld_s, xs1_0, xs1_1, xs1_s, xs2_0, xs2_1, xs2_s, xlg_n, xlg_i, xlg_r, xlg_z, xlg_l, xf4_0, xf4_1, xf4_2, xf4_3, xgo_e, xcmp_eq, xcmp_ne, xcmp_lt, xcmp_ge, xcmp_gt, xcmp_le, xfg_0, xfg_1, xfg_2, xfg_3, xfg_4, xpop_0, xpop_s, xsw_n, xsw_c, xtb_n, xtb_c, xenp_n, xenp_i, xenp_r, xenp_z, xenp_l, xrep_0, xrep_s, Nat.reduceSub, true_and, and_true, cat_i, cat_r, Nat.reduceAdd, Nat.reduceLT, Nat.reduceLeDiff, Nat.reduceEqDiff, xnc, Int.reduceAdd, Int.reduceSub, Int.reduceNeg, Int.reduceLE, Int.reduceLT, Int.reduceToNat, ↓reduceIte, List.length_cons, List.length_nil, xlc0, xlc1, ite_10, i10, i01, i0_2, i0_3, i0_4, i0_6, i0_7, i0_8, i0_49, i0_10, or_true, true_or, or_false, false_or, not_false_eq_true, not_true_eq_false, xnt, xI_g, eq_self, xI_2, xJ_1, false_and, and_false, obM_t, rMi, vp_tn, tn_def, lgc, nI8, nI6, nI160, nI20, nI401, nI49, aM_6, aM_7, aM_8, aM_9, aM_10, aM_11, aM_12, aM_13, aM_14, aM_15, aM_16, aM_17, aM_18, aM_19, aM_20, aM_21, aM_22, aM_23, aM_24, aM_25, aM_26, aM_27, aM_28, aM_29, aM_30, aM_31, aM_38, aM_39, aM_40, aM_41, aM_42, aM_43, aM_44, aM_45, aM_46, aM_47, lM_6, lM_7, lM_8, lM_9, lM_10, lM_11, lM_12, lM_13, lM_14, lM_15, lM_16, lM_17, lM_18, lM_19, lM_20, lM_21, lM_22, lM_23, lM_24, lM_25, lM_26, lM_27, lM_28, lM_29, lM_30, lM_31, lM_38, lM_39, lM_40, lM_41, lM_42, lM_43, lM_44, lM_45, lM_46, lM_47, dX7_firstOf_0, st_aload_n, dX7_firstOf_1, st_invokevirtual, dX7_firstOf_4, st_iconst, dX7_firstOf_5, st_istore_n, dX7_firstOf_6, dX7_firstOf_7, st_istore, dX7_firstOf_9, st_iload, dX7_firstOf_11, st_sipush, dX7_firstOf_14, st_if_icmp, dX7_firstOf_17, st_iload_n, dX7_firstOf_18, dX7_firstOf_19, dX7_firstOf_22, dX7_firstOf_24, st_ifCond, dX7_firstOf_27, dX7_firstOf_28, dX7_firstOf_31, st_pop, dX7_firstOf_32, dX7_firstOf_33, dX7_firstOf_34, dX7_firstOf_37, dX7_firstOf_38, dX7_firstOf_39, dX7_firstOf_42, dX7_firstOf_45, st_goto, dX7_firstOf_48, dX7_firstOf_49, st_getfield, fl_X7_44, dX7_firstOf_52, dX7_firstOf_53, st_iaload, dX7_firstOf_54, dX7_firstOf_55, dX7_firstOf_58, dX7_firstOf_60, dX7_firstOf_61, st_iinc, dX7_firstOf_64, dX7_firstOf_67, dX7_firstOf_68, dX7_firstOf_71, dX7_firstOf_72, st_ireturn, c_X7_firstOf_290, pX7_begins_e, fX7_begins_e, Option.toList_some, Option.toList_none, List.cons_append, List.nil_append, c_X7_firstOf_284, pX7_beats1_e, fX7_beats1_e, c_X7_firstOf_299, pX7_having_e, fX7_having_e, c_X7_firstOf_296, pX7_backAgain_e, fX7_backAgain_e, ofI_m1, ofI_0, ofI_400, ofJ_1, hp1, hp2, hp3, hp4, xwp_s, xcu_s, xcu_n, xPc_e, xsub_0, xsub_n, xsub_s, k32, kn, nI_00, gbM_0, hT, i00, i400]
    try simp
theorem rX7_firstOf : ∀ as σ, pX7_firstOf as σ → ∃ K as', as = .ref K :: as' ∧ xob WM K 7 := by
  rintro as σ ⟨g, x, rfl, hpre⟩
  exact ⟨_, _, rfl, by first | exact hpre | exact hpre.1 | exact obT hpre | exact obT hpre.1 | exact obS hpre | exact obS hpre.1 | exact obM | exact ob6 | exact ob2 | exact ob0⟩
theorem wxP_x {x k : Int32} (h : 0 ≤ x ∧ x < k) (hk : k ≤ 6) : wxP x := Or.inr ⟨h.1, tn6 h hk⟩
def pX7_lost (as : List Value) (σ : xS) : Prop := ∃ (g : Int32), as = [.ref 0, .int g] ∧ ((0 ≤ σ.1 0 1) ∧ (σ.1 0 1 ≤ 6) ∧ (BOK (bgM σ)))
def fX7_lost (as : List Value) (σ : xS) : Option Value × xS := match as with
  | [.ref 0, .int g] => (some (.int (losM σ g).1), (losM σ g).2)
  | _ => (none, σ)
theorem pX7_lost_e {g : Int32} {σ : xS} : pX7_lost [.ref 0, .int g] σ = ((0 ≤ σ.1 0 1) ∧ (σ.1 0 1 ≤ 6) ∧ (BOK (bgM σ))) := propext ⟨fun h => by obtain ⟨g, e, h⟩ := h; cases e; exact h, fun h => ⟨g, rfl, h⟩⟩
theorem fX7_lost_e {g : Int32} {σ : xS} : fX7_lost [.ref 0, .int g] σ = (some (.int (losM σ g).1), (losM σ g).2) := rfl
def calX7_lost : List (Nat × xCall) := [(161, (false, 2, pX7_isGait, fX7_isGait)), (302, (false, 3, pX7_firstOf, fX7_firstOf)), (164, (false, 2, pX7_noTen, fX7_noTen))]
theorem c_X7_lost_161 : xlk calX7_lost 161 = some (false, 2, pX7_isGait, fX7_isGait) := rfl
theorem c_X7_lost_302 : xlk calX7_lost 302 = some (false, 3, pX7_firstOf, fX7_firstOf) := rfl
theorem c_X7_lost_164 : xlk calX7_lost 164 = some (false, 2, pX7_noTen, fX7_noTen) := rfl
set_option maxHeartbeats 4000000 in
set_option maxRecDepth 100000 in
theorem mX7_lost : xMet WM yX7_lost cX7_lost 2 (some .int) 6 pX7_lost fX7_lost := by
  refine xMet_of (fld := xlk fldX7) (cal := xlk calX7_lost) (ks := xlk []) (gs := xlk []) (ro := fun _ => none) 0 (by decide) WM_nd rfl fldX7_ok xKs_nil xGs_nil (Or.inr rfl) (xcal_cons (xCk_V mX7_isGait 7 (by decide) (by decide) (by decide) rfl (fun as σ h _ => rX7_isGait as σ h) w_X7_161 ⟨by decide, by decide, by decide +kernel⟩) (xcal_cons (xCk_V mX7_firstOf 7 (by decide) (by decide) (by decide) rfl (fun as σ h _ => rX7_firstOf as σ h) w_X7_302 ⟨by decide, by decide, by decide +kernel⟩) (xcal_cons (xCk_V mX7_noTen 7 (by decide) (by decide) (by decide) rfl (fun as σ h _ => rX7_noTen as σ h) w_X7_164 ⟨by decide, by decide, by decide +kernel⟩) xcal_nil))) ?_ ?_
  · rintro av σ ⟨g, rfl, hpre⟩
    exact Nat.le_of_ble_eq_true rfl
  rintro av σ ⟨g, rfl, ⟨hp1, hp2, hp3⟩⟩ Rt hR
  have hR2 := hR2_g (Rt := Rt) (F := losM σ g) (fun r s' => by rw [hR, fX7_lost_e])
  refine xgo0 15 ?_
  simp -implicitDefEqProofs only [xwp_2, xwp_0, xwp_1, xws_s, xdd_o, xld_0, xld_s, xs1_0, xs1_1, xs1_s, xs2_0, xs2_1, xs2_s, xlg_n, xlg_i, xlg_r, xlg_z, xlg_l, xf4_0, xf4_1, xf4_2, xf4_3, xgo_e, xcmp_eq, xcmp_ne, xcmp_lt, xcmp_ge, xcmp_gt, xcmp_le, xfg_0, xfg_1, xfg_2, xfg_3, xfg_4, xpop_0, xpop_s, xsw_n, xsw_c, xtb_n, xtb_c, xenp_n, xenp_i, xenp_r, xenp_z, xenp_l, xrep_0, xrep_s, Nat.reduceSub, true_and, and_true, cat_i, cat_r, Nat.reduceAdd, Nat.reduceLT, Nat.reduceLeDiff, Nat.reduceEqDiff, xnc, Int.reduceAdd, Int.reduceSub, Int.reduceNeg, Int.reduceLE, Int.reduceLT, Int.reduceToNat, ↓reduceIte, List.length_cons, List.length_nil, xlc0, xlc1, ite_10, i10, i01, i0_2, i0_3, i0_4, i0_6, i0_7, i0_8, i0_49, i0_10, or_true, true_or, or_false, false_or, not_false_eq_true, not_true_eq_false, xnt, xI_g, eq_self, xI_2, xJ_1, false_and, and_false, obM_t, rMi, vp_tn, tn_def, lgc, nI8, nI6, nI160, nI20, nI401, nI49, aM_6, aM_7, aM_8, aM_9, aM_10, aM_11, aM_12, aM_13, aM_14, aM_15, aM_16, aM_17, aM_18, aM_19, aM_20, aM_21, aM_22, aM_23, aM_24, aM_25, aM_26, aM_27, aM_28, aM_29, aM_30, aM_31, aM_38, aM_39, aM_40, aM_41, aM_42, aM_43, aM_44, aM_45, aM_46, aM_47, lM_6, lM_7, lM_8, lM_9, lM_10, lM_11, lM_12, lM_13, lM_14, lM_15, lM_16, lM_17, lM_18, lM_19, lM_20, lM_21, lM_22, lM_23, lM_24, lM_25, lM_26, lM_27, lM_28, lM_29, lM_30, lM_31, lM_38, lM_39, lM_40, lM_41, lM_42, lM_43, lM_44, lM_45, lM_46, lM_47, dX7_lost_0, st_aload_n, dX7_lost_1, st_iload_n, dX7_lost_2, st_invokevirtual, dX7_lost_5, st_ifCond, dX7_lost_8, dX7_lost_9, dX7_lost_10, st_iconst, dX7_lost_11, dX7_lost_14, st_goto, dX7_lost_17, dX7_lost_18, dX7_lost_19, dX7_lost_22, st_ireturn, c_X7_lost_161, pX7_isGait_e, fX7_isGait_e, Option.toList_some, Option.toList_none, List.cons_append, List.nil_append, c_X7_lost_302, pX7_firstOf_e, fX7_firstOf_e, c_X7_lost_164, pX7_noTen_e, fX7_noTen_e, ofI_m1, hp1, hp2, hp3, nbP_1, nbP_2, nbP_3, nbP_4, nbP_5, nbP_6, nbP_7, wxP_m]
  clear hR
  simp only [hR2, losM, ntM]
  clear hR2 hp3
  grind (splits := 40)
theorem rX7_lost : ∀ as σ, pX7_lost as σ → ∃ K as', as = .ref K :: as' ∧ xob WM K 7 := by
  rintro as σ ⟨g, rfl, hpre⟩
  exact ⟨_, _, rfl, by first | exact hpre | exact hpre.1 | exact obT hpre | exact obT hpre.1 | exact obS hpre | exact obS hpre.1 | exact obM | exact ob6 | exact ob2 | exact ob0⟩
def pX7_comes (as : List Value) (σ : xS) : Prop := ∃ (g : Int32) (x : Int32), as = [.ref 0, .int g, .int x] ∧ ((0 ≤ σ.1 0 1) ∧ (σ.1 0 1 ≤ 6) ∧ (BOK (bgM σ)))
def fX7_comes (as : List Value) (σ : xS) : Option Value × xS := match as with
  | [.ref 0, .int g, .int x] => (some (.int (comM σ g x).1), (comM σ g x).2)
  | _ => (none, σ)
theorem pX7_comes_e {g : Int32} {x : Int32} {σ : xS} : pX7_comes [.ref 0, .int g, .int x] σ = ((0 ≤ σ.1 0 1) ∧ (σ.1 0 1 ≤ 6) ∧ (BOK (bgM σ))) := propext ⟨fun h => by obtain ⟨g, x, e, h⟩ := h; cases e; exact h, fun h => ⟨g, x, rfl, h⟩⟩
theorem fX7_comes_e {g : Int32} {x : Int32} {σ : xS} : fX7_comes [.ref 0, .int g, .int x] σ = (some (.int (comM σ g x).1), (comM σ g x).2) := rfl
def calX7_comes : List (Nat × xCall) := [(161, (false, 2, pX7_isGait, fX7_isGait)), (140, (false, 2, pX7_isWalker, fX7_isWalker)), (302, (false, 3, pX7_firstOf, fX7_firstOf)), (164, (false, 2, pX7_noTen, fX7_noTen))]
theorem c_X7_comes_161 : xlk calX7_comes 161 = some (false, 2, pX7_isGait, fX7_isGait) := rfl
theorem c_X7_comes_140 : xlk calX7_comes 140 = some (false, 2, pX7_isWalker, fX7_isWalker) := rfl
theorem c_X7_comes_302 : xlk calX7_comes 302 = some (false, 3, pX7_firstOf, fX7_firstOf) := rfl
theorem c_X7_comes_164 : xlk calX7_comes 164 = some (false, 2, pX7_noTen, fX7_noTen) := rfl
set_option maxHeartbeats 4000000 in
set_option maxRecDepth 100000 in
theorem mX7_comes : xMet WM yX7_comes cX7_comes 3 (some .int) 6 pX7_comes fX7_comes := by
  refine xMet_of (fld := xlk fldX7) (cal := xlk calX7_comes) (ks := xlk []) (gs := xlk []) (ro := fun _ => none) 0 (by decide) WM_nd rfl fldX7_ok xKs_nil xGs_nil (Or.inr rfl) (xcal_cons (xCk_V mX7_isGait 7 (by decide) (by decide) (by decide) rfl (fun as σ h _ => rX7_isGait as σ h) w_X7_161 ⟨by decide, by decide, by decide +kernel⟩) (xcal_cons (xCk_V mX7_isWalker 7 (by decide) (by decide) (by decide) rfl (fun as σ h _ => rX7_isWalker as σ h) w_X7_140 ⟨by decide, by decide, by decide +kernel⟩) (xcal_cons (xCk_V mX7_firstOf 7 (by decide) (by decide) (by decide) rfl (fun as σ h _ => rX7_firstOf as σ h) w_X7_302 ⟨by decide, by decide, by decide +kernel⟩) (xcal_cons (xCk_V mX7_noTen 7 (by decide) (by decide) (by decide) rfl (fun as σ h _ => rX7_noTen as σ h) w_X7_164 ⟨by decide, by decide, by decide +kernel⟩) xcal_nil)))) ?_ ?_
  · rintro av σ ⟨g, x, rfl, hpre⟩
    exact Nat.le_of_ble_eq_true rfl
  rintro av σ ⟨g, x, rfl, ⟨hp1, hp2, hp3⟩⟩ Rt hR
  have hR2 := hR2_g (Rt := Rt) (F := comM σ g x) (fun r s' => by rw [hR, fX7_comes_e])
  by_cases hx : 0 ≤ x ∧ x < σ.1 0 1
  · have hw := wxP_x hx hp2
    refine xgo0 19 ?_
    simp -implicitDefEqProofs only [xwp_2, xwp_0, xwp_1, xws_s, xdd_o, xld_0, xld_s, xs1_0, xs1_1, xs1_s, xs2_0, xs2_1, xs2_s, xlg_n, xlg_i, xlg_r, xlg_z, xlg_l, xf4_0, xf4_1, xf4_2, xf4_3, xgo_e, xcmp_eq, xcmp_ne, xcmp_lt, xcmp_ge, xcmp_gt, xcmp_le, xfg_0, xfg_1, xfg_2, xfg_3, xfg_4, xpop_0, xpop_s, xsw_n, xsw_c, xtb_n, xtb_c, xenp_n, xenp_i, xenp_r, xenp_z, xenp_l, xrep_0, xrep_s, Nat.reduceSub, true_and, and_true, cat_i, cat_r, Nat.reduceAdd, Nat.reduceLT, Nat.reduceLeDiff, Nat.reduceEqDiff, xnc, Int.reduceAdd, Int.reduceSub, Int.reduceNeg, Int.reduceLE, Int.reduceLT, Int.reduceToNat, ↓reduceIte, List.length_cons, List.length_nil, xlc0, xlc1, ite_10, i10, i01, i0_2, i0_3, i0_4, i0_6, i0_7, i0_8, i0_49, i0_10, or_true, true_or, or_false, false_or, not_false_eq_true, not_true_eq_false, xnt, xI_g, eq_self, xI_2, xJ_1, false_and, and_false, obM_t, rMi, vp_tn, tn_def, lgc, nI8, nI6, nI160, nI20, nI401, nI49, aM_6, aM_7, aM_8, aM_9, aM_10, aM_11, aM_12, aM_13, aM_14, aM_15, aM_16, aM_17, aM_18, aM_19, aM_20, aM_21, aM_22, aM_23, aM_24, aM_25, aM_26, aM_27, aM_28, aM_29, aM_30, aM_31, aM_38, aM_39, aM_40, aM_41, aM_42, aM_43, aM_44, aM_45, aM_46, aM_47, lM_6, lM_7, lM_8, lM_9, lM_10, lM_11, lM_12, lM_13, lM_14, lM_15, lM_16, lM_17, lM_18, lM_19, lM_20, lM_21, lM_22, lM_23, lM_24, lM_25, lM_26, lM_27, lM_28, lM_29, lM_30, lM_31, lM_38, lM_39, lM_40, lM_41, lM_42, lM_43, lM_44, lM_45, lM_46, lM_47, dX7_comes_0, st_aload_n, dX7_comes_1, st_iload_n, dX7_comes_2, st_invokevirtual, dX7_comes_5, st_ifCond, dX7_comes_8, dX7_comes_9, dX7_comes_10, dX7_comes_13, dX7_comes_16, dX7_comes_17, dX7_comes_18, dX7_comes_19, dX7_comes_22, st_goto, dX7_comes_25, dX7_comes_26, st_iconst, dX7_comes_27, dX7_comes_30, st_ireturn, c_X7_comes_161, pX7_isGait_e, fX7_isGait_e, Option.toList_some, Option.toList_none, List.cons_append, List.nil_append, c_X7_comes_140, pX7_isWalker_e, fX7_isWalker_e, c_X7_comes_302, pX7_firstOf_e, fX7_firstOf_e, c_X7_comes_164, pX7_noTen_e, fX7_noTen_e, ofI_m1, hp1, hp2, hp3, hx, hw, nbP_1, nbP_2, nbP_3, nbP_4, nbP_5, nbP_6, nbP_7]
    clear hR
    simp only [hR2, comM, ntM]
    clear hR2 hp3 hw
    grind (splits := 40)
  · refine xgo0 19 ?_
    simp -implicitDefEqProofs only [xwp_2, xwp_0, xwp_1, xws_s, xdd_o, xld_0, xld_s, xs1_0, xs1_1, xs1_s, xs2_0, xs2_1, xs2_s, xlg_n, xlg_i, xlg_r, xlg_z, xlg_l, xf4_0, xf4_1, xf4_2, xf4_3, xgo_e, xcmp_eq, xcmp_ne, xcmp_lt, xcmp_ge, xcmp_gt, xcmp_le, xfg_0, xfg_1, xfg_2, xfg_3, xfg_4, xpop_0, xpop_s, xsw_n, xsw_c, xtb_n, xtb_c, xenp_n, xenp_i, xenp_r, xenp_z, xenp_l, xrep_0, xrep_s, Nat.reduceSub, true_and, and_true, cat_i, cat_r, Nat.reduceAdd, Nat.reduceLT, Nat.reduceLeDiff, Nat.reduceEqDiff, xnc, Int.reduceAdd, Int.reduceSub, Int.reduceNeg, Int.reduceLE, Int.reduceLT, Int.reduceToNat, ↓reduceIte, List.length_cons, List.length_nil, xlc0, xlc1, ite_10, i10, i01, i0_2, i0_3, i0_4, i0_6, i0_7, i0_8, i0_49, i0_10, or_true, true_or, or_false, false_or, not_false_eq_true, not_true_eq_false, xnt, xI_g, eq_self, xI_2, xJ_1, false_and, and_false, obM_t, rMi, vp_tn, tn_def, lgc, nI8, nI6, nI160, nI20, nI401, nI49, aM_6, aM_7, aM_8, aM_9, aM_10, aM_11, aM_12, aM_13, aM_14, aM_15, aM_16, aM_17, aM_18, aM_19, aM_20, aM_21, aM_22, aM_23, aM_24, aM_25, aM_26, aM_27, aM_28, aM_29, aM_30, aM_31, aM_38, aM_39, aM_40, aM_41, aM_42, aM_43, aM_44, aM_45, aM_46, aM_47, lM_6, lM_7, lM_8, lM_9, lM_10, lM_11, lM_12, lM_13, lM_14, lM_15, lM_16, lM_17, lM_18, lM_19, lM_20, lM_21, lM_22, lM_23, lM_24, lM_25, lM_26, lM_27, lM_28, lM_29, lM_30, lM_31, lM_38, lM_39, lM_40, lM_41, lM_42, lM_43, lM_44, lM_45, lM_46, lM_47, dX7_comes_0, st_aload_n, dX7_comes_1, st_iload_n, dX7_comes_2, st_invokevirtual, dX7_comes_5, st_ifCond, dX7_comes_8, dX7_comes_9, dX7_comes_10, dX7_comes_13, dX7_comes_16, dX7_comes_17, dX7_comes_18, dX7_comes_19, dX7_comes_22, st_goto, dX7_comes_25, dX7_comes_26, st_iconst, dX7_comes_27, dX7_comes_30, st_ireturn, c_X7_comes_161, pX7_isGait_e, fX7_isGait_e, Option.toList_some, Option.toList_none, List.cons_append, List.nil_append, c_X7_comes_140, pX7_isWalker_e, fX7_isWalker_e, c_X7_comes_302, pX7_firstOf_e, fX7_firstOf_e, c_X7_comes_164, pX7_noTen_e, fX7_noTen_e, ofI_m1, hp1, hp2, hp3, hx, nbP_1, nbP_2, nbP_3, nbP_4, nbP_5, nbP_6, nbP_7]
    clear hR
    simp only [hR2, comM, ntM]
    clear hR2 hp3
    grind (splits := 40)
theorem rX7_comes : ∀ as σ, pX7_comes as σ → ∃ K as', as = .ref K :: as' ∧ xob WM K 7 := by
  rintro as σ ⟨g, x, rfl, hpre⟩
  exact ⟨_, _, rfl, by first | exact hpre | exact hpre.1 | exact obT hpre | exact obT hpre.1 | exact obS hpre | exact obS hpre.1 | exact obM | exact ob6 | exact ob2 | exact ob0⟩
def mtQ (T : xS) (x y : Int32) (b : Nat) : Bool := decide ((gbM (b + 1) T).1 13 (tn x) = (gbM (b + 1) T).1 13 (tn y))
def meeM (σ : xS) (x y : Int32) : Int32 × xS := if ¬ (0 ≤ x ∧ x < σ.1 0 1) ∨ ¬ (0 ≤ y ∧ y < σ.1 0 1) then ntM σ (-1) else if x = y then ntM σ (-6) else mrM (mtQ (bgM σ) x y) (bgM σ)
def alQ (T : xS) (b : Nat) : Bool := decide (akM (gbM b T) = false)
def aliM (σ : xS) : Int32 × xS := srM (alQ (bgM σ)) (bgM σ)
def pX7_alike (as : List Value) (σ : xS) : Prop := as = [.ref 0] ∧ ((0 ≤ σ.1 0 1) ∧ (σ.1 0 1 ≤ 6) ∧ (BOK (bgM σ)))
def fX7_alike (as : List Value) (σ : xS) : Option Value × xS := match as with
  | [.ref 0] => (some (.int (aliM σ).1), (aliM σ).2)
  | _ => (none, σ)
theorem pX7_alike_e {σ : xS} : pX7_alike [.ref 0] σ = ((0 ≤ σ.1 0 1) ∧ (σ.1 0 1 ≤ 6) ∧ (BOK (bgM σ))) := propext ⟨fun h => h.2, fun h => ⟨rfl, h⟩⟩
theorem fX7_alike_e  {σ : xS} : fX7_alike [.ref 0] σ = (some (.int (aliM σ).1), (aliM σ).2) := rfl
def calX7_alike : List (Nat × xCall) := [(290, (false, 1, pX7_begins, fX7_begins)), (284, (false, 1, pX7_beats1, fX7_beats1)), (317, (false, 1, pX7_isAlike, fX7_isAlike)), (296, (false, 1, pX7_backAgain, fX7_backAgain))]
theorem c_X7_alike_290 : xlk calX7_alike 290 = some (false, 1, pX7_begins, fX7_begins) := rfl
theorem c_X7_alike_284 : xlk calX7_alike 284 = some (false, 1, pX7_beats1, fX7_beats1) := rfl
theorem c_X7_alike_317 : xlk calX7_alike 317 = some (false, 1, pX7_isAlike, fX7_isAlike) := rfl
theorem c_X7_alike_296 : xlk calX7_alike 296 = some (false, 1, pX7_backAgain, fX7_backAgain) := rfl
set_option maxHeartbeats 4000000 in
set_option maxRecDepth 100000 in
theorem mX7_alike : xMet WM yX7_alike cX7_alike 3 (some .int) 5 pX7_alike fX7_alike := by
  refine xMet_of (fld := xlk fldX7) (cal := xlk calX7_alike) (ks := xlk []) (gs := xlk []) (ro := fun _ => none) 0 (by decide) WM_nd rfl fldX7_ok xKs_nil xGs_nil (Or.inr rfl) (xcal_cons (xCk_V mX7_begins 7 (by decide) (by decide) (by decide) rfl (fun as σ h _ => rX7_begins as σ h) w_X7_290 ⟨by decide, by decide, by decide +kernel⟩) (xcal_cons (xCk_V mX7_beats1 7 (by decide) (by decide) (by decide) rfl (fun as σ h _ => rX7_beats1 as σ h) w_X7_284 ⟨by decide, by decide, by decide +kernel⟩) (xcal_cons (xCk_V mX7_isAlike 7 (by decide) (by decide) (by decide) rfl (fun as σ h _ => rX7_isAlike as σ h) w_X7_317 ⟨by decide, by decide, by decide +kernel⟩) (xcal_cons (xCk_V mX7_backAgain 7 (by decide) (by decide) (by decide) rfl (fun as σ h _ => rX7_backAgain as σ h) w_X7_296 ⟨by decide, by decide, by decide +kernel⟩) xcal_nil)))) ?_ ?_
  · rintro av σ ⟨rfl, hpre⟩
    exact Nat.le_of_ble_eq_true rfl
  rintro av σ ⟨rfl, ⟨hp1, hp2, hp3⟩⟩ Rt hR
  have hR2 := hR2_g (Rt := Rt) (F := aliM σ) (fun r s' => by rw [hR, fX7_alike_e])
  clear hR
  unfold aliM at hR2
  have hB := BOK_e hp3
  have hwk := xwk6 hp2
  generalize hT : bgM σ = T at *
  have hT0 : ∀ b, T.1 0 b = σ.1 0 b := fun b => by rw [← hT, bgM_k]
  have h1 : ∀ i, i ≤ 400 → (∀ j, j < i → alQ T j = false) → xGo WM 3 (xlk fldX7) (xlk calX7_alike) (xlk []) (xlk []) (fun _ => none) 0 cX7_alike Rt 29 [some (.ref 0), some (.int (-1)), some (.int (nI i))] [] (gbM i T) := by
    refine xcount (400) (fun i => (∀ j, j < i → alQ T j = false) → xGo WM 3 (xlk fldX7) (xlk calX7_alike) (xlk []) (xlk []) (fun _ => none) 0 cX7_alike Rt 29 [some (.ref 0), some (.int (-1)), some (.int (nI i))] [] (gbM i T)) (fun i hi ih hH => ?_)
    have hc : (400 : Int32) < nI (i + 1) ↔ 400 < i + 1 := nI_ltI (a := 400) (by omega) (by omega)
    have hc2 : nI (i + 1) ≤ 0 ↔ i + 1 ≤ 0 := nI_leI (b := 0) (by omega) (by omega)
    have hni : (nI i = -1) = False := eq_false (fun q => by
      have h1 := nI_pos' (n := i) (by omega)
      rw [q] at h1
      exact absurd h1 (by decide))
    have e1 : nI i + 1 = nI (i + 1) := nI_1 i
    have hBi := hB i
    have hbe : beM (gbM i T) = gbM (i + 1) T := rfl
    refine xtoCs [(29, xPc (i < 400 ∧ (∀ j, j < (i + 1) → alQ T j = false)) [some (.ref 0), some (.int (-1)), some (.int (nI (i + 1)))] (gbM (i + 1) T))] (xcs_cons (fun q => ih q.1 q.2) xcs_nil) 32 (fun cf hcf => ?_)
    have k29 : cf 29 = some (xPc (i < 400 ∧ (∀ j, j < (i + 1) → alQ T j = false)) [some (.ref 0), some (.int (-1)), some (.int (nI (i + 1)))] (gbM (i + 1) T)) := (hcf 29).trans rfl
    have kn : ∀ pc, ¬ pc = 29 → cf pc = none := fun pc h0 => by rw [hcf, xlk_c, if_neg h0, xlk_n]
    clear hcf
    simp (config := {maxSteps := 4000000, implicitDefEqProofs := false}) only [xwp_2, xwp_0, xwp_1, xws_s, xdd_o, xld_0, xld_s, xs1_0, xs1_1, xs1_s, xs2_0, xs2_1, xs2_s, xlg_n, xlg_i, xlg_r, xlg_z, xlg_l, xf4_0, xf4_1, xf4_2, xf4_3, xgo_e, xcmp_eq, xcmp_ne, xcmp_lt, xcmp_ge, xcmp_gt, xcmp_le, xfg_0, xfg_1, xfg_2, xfg_3, xfg_4, xpop_0, xpop_s, xsw_n, xsw_c, xtb_n, xtb_c, xenp_n, xenp_i, xenp_r, xenp_z, xenp_l, xrep_0, xrep_s, Nat.reduceSub, true_and, and_true, cat_i, cat_r, Nat.reduceAdd, Nat.reduceLT, Nat.reduceLeDiff, Nat.reduceEqDiff, xnc, Int.reduceAdd, Int.reduceSub, Int.reduceNeg, Int.reduceLE, Int.reduceLT, Int.reduceToNat, ↓reduceIte, List.length_cons, List.length_nil, xlc0, xlc1, ite_10, i10, i01, i0_2, i0_3, i0_4, i0_6, i0_7, i0_8, i0_49, i0_10, or_true, true_or, or_false, false_or, not_false_eq_true, not_true_eq_false, xnt, xI_g, eq_self, xI_2, xJ_1, false_and, and_false, obM_t, rMi, vp_tn, tn_def, lgc, nI8, nI6, nI160, nI20, nI401, nI49, aM_6, aM_7, aM_8, aM_9, aM_10, aM_11, aM_12, aM_13, aM_14, aM_15, aM_16, aM_17, aM_18, aM_19, aM_20, aM_21, aM_22, aM_23, aM_24, aM_25, aM_26, aM_27, aM_28, aM_29, aM_30, aM_31, aM_38, aM_39, aM_40, aM_41, aM_42, aM_43, aM_44, aM_45, aM_46, aM_47, lM_6, lM_7, lM_8, lM_9, lM_10, lM_11, lM_12, lM_13, lM_14, lM_15, lM_16, lM_17, lM_18, lM_19, lM_20, lM_21, lM_22, lM_23, lM_24, lM_25, lM_26, lM_27, lM_28, lM_29, lM_30, lM_31, lM_38, lM_39, lM_40, lM_41, lM_42, lM_43, lM_44, lM_45, lM_46, lM_47, dX7_alike_0, st_aload_n, dX7_alike_1, st_invokevirtual, dX7_alike_4, st_iconst, dX7_alike_5, st_istore_n, dX7_alike_6, dX7_alike_7, dX7_alike_8, st_iload_n, dX7_alike_9, st_sipush, dX7_alike_12, st_if_icmp, dX7_alike_15, dX7_alike_16, dX7_alike_17, dX7_alike_20, dX7_alike_21, st_ifCond, dX7_alike_24, dX7_alike_25, dX7_alike_28, st_pop, dX7_alike_29, dX7_alike_30, dX7_alike_33, dX7_alike_36, dX7_alike_37, dX7_alike_38, st_iinc, dX7_alike_41, st_goto, dX7_alike_44, dX7_alike_45, dX7_alike_48, dX7_alike_49, st_ireturn, c_X7_alike_290, pX7_begins_e, fX7_begins_e, Option.toList_some, Option.toList_none, List.cons_append, List.nil_append, c_X7_alike_284, pX7_beats1_e, fX7_beats1_e, c_X7_alike_317, pX7_isAlike_e, fX7_isAlike_e, c_X7_alike_296, pX7_backAgain_e, fX7_backAgain_e, ofI_m1, ofI_0, ofI_400, ofJ_1, hp1, hp2, hp3, xwp_s, xcu_s, xcu_n, xPc_e, xsub_0, xsub_n, xsub_s, k29, kn, hc, hc2, hni, e1, gbM_k, hT0, hBi, hbe]
    have e5 : alQ T i = decide (akM (gbM i T) = false) := rfl
    have cont : alQ T i = false → (∀ j, j < i + 1 → alQ T j = false) := fun h2 => xall_s hH h2
    have fin : i = 400 → alQ T i = false → srM (alQ T) T = (-1, baM (gbM i T)) := fun h h2 => by
      have h9 : ∀ j, j < 401 → alQ T j = false := fun j hj => cont h2 j (by omega)
      have h8 : xfs (alQ T) 401 = 401 := xfs_no h9
      rw [srM_no h8, h]
    have stop : alQ T i = true → srM (alQ T) T = (nI i, baM (gbM i T)) := fun h2 => by
      have h8 : xfs (alQ T) 401 = i := xfs_at (by omega) h2 hH
      exact srM_at h8 (by omega)
    simp only [hR2]
    clear hR2 hc ih hB hT0 hBi hbe hni
    skip
    grind (splits := 40)
  refine xtoC [(29, xPc (True) [some (.ref 0), some (.int (-1)), some (.int (nI 0))] (gbM 0 T))] (xcs_cons (fun _ => h1 0 (Nat.zero_le _) (fun j hj => by omega)) xcs_nil) 40 (fun cf hcf => ?_)
  have k29 : cf 29 = some (xPc (True) [some (.ref 0), some (.int (-1)), some (.int (nI 0))] (gbM 0 T)) := (hcf 29).trans rfl
  have kn : ∀ pc, ¬ pc = 29 → cf pc = none := fun pc h0 => by rw [hcf, xlk_c, if_neg h0, xlk_n]
  clear hcf
  simp (config := {maxSteps := 4000000, implicitDefEqProofs := false}) only [xwp_2, xwp_0, xwp_1, xws_s, xdd_o, xld_0, xld_s, xs1_0, xs1_1, xs1_s, xs2_0, xs2_1, xs2_s, xlg_n, xlg_i, xlg_r, xlg_z, xlg_l, xf4_0, xf4_1, xf4_2, xf4_3, xgo_e, xcmp_eq, xcmp_ne, xcmp_lt, xcmp_ge, xcmp_gt, xcmp_le, xfg_0, xfg_1, xfg_2, xfg_3, xfg_4, xpop_0, xpop_s, xsw_n, xsw_c, xtb_n, xtb_c, xenp_n, xenp_i, xenp_r, xenp_z, xenp_l, xrep_0, xrep_s, Nat.reduceSub, true_and, and_true, cat_i, cat_r, Nat.reduceAdd, Nat.reduceLT, Nat.reduceLeDiff, Nat.reduceEqDiff, xnc, Int.reduceAdd, Int.reduceSub, Int.reduceNeg, Int.reduceLE, Int.reduceLT, Int.reduceToNat, ↓reduceIte, List.length_cons, List.length_nil, xlc0, xlc1, ite_10, i10, i01, i0_2, i0_3, i0_4, i0_6, i0_7, i0_8, i0_49, i0_10, or_true, true_or, or_false, false_or, not_false_eq_true, not_true_eq_false, xnt, xI_g, eq_self, xI_2, xJ_1, false_and, and_false, obM_t, rMi, vp_tn, tn_def, lgc, nI8, nI6, nI160, nI20, nI401, nI49, aM_6, aM_7, aM_8, aM_9, aM_10, aM_11, aM_12, aM_13, aM_14, aM_15, aM_16, aM_17, aM_18, aM_19, aM_20, aM_21, aM_22, aM_23, aM_24, aM_25, aM_26, aM_27, aM_28, aM_29, aM_30, aM_31, aM_38, aM_39, aM_40, aM_41, aM_42, aM_43, aM_44, aM_45, aM_46, aM_47, lM_6, lM_7, lM_8, lM_9, lM_10, lM_11, lM_12, lM_13, lM_14, lM_15, lM_16, lM_17, lM_18, lM_19, lM_20, lM_21, lM_22, lM_23, lM_24, lM_25, lM_26, lM_27, lM_28, lM_29, lM_30, lM_31, lM_38, lM_39, lM_40, lM_41, lM_42, lM_43, lM_44, lM_45, lM_46, lM_47, dX7_alike_0, st_aload_n, dX7_alike_1, st_invokevirtual, dX7_alike_4, st_iconst, dX7_alike_5, st_istore_n, dX7_alike_6, dX7_alike_7, dX7_alike_8, st_iload_n, dX7_alike_9, st_sipush, dX7_alike_12, st_if_icmp, dX7_alike_15, dX7_alike_16, dX7_alike_17, dX7_alike_20, dX7_alike_21, st_ifCond, dX7_alike_24, dX7_alike_25, dX7_alike_28, st_pop, dX7_alike_29, dX7_alike_30, dX7_alike_33, dX7_alike_36, dX7_alike_37, dX7_alike_38, st_iinc, dX7_alike_41, st_goto, dX7_alike_44, dX7_alike_45, dX7_alike_48, dX7_alike_49, st_ireturn, c_X7_alike_290, pX7_begins_e, fX7_begins_e, Option.toList_some, Option.toList_none, List.cons_append, List.nil_append, c_X7_alike_284, pX7_beats1_e, fX7_beats1_e, c_X7_alike_317, pX7_isAlike_e, fX7_isAlike_e, c_X7_alike_296, pX7_backAgain_e, fX7_backAgain_e, ofI_m1, ofI_0, ofI_400, ofJ_1, hp1, hp2, hp3, xwp_s, xcu_s, xcu_n, xPc_e, xsub_0, xsub_n, xsub_s, k29, kn, nI_00, gbM_0, hT, i00, i400]
  try simp
theorem rX7_alike : ∀ as σ, pX7_alike as σ → ∃ K as', as = .ref K :: as' ∧ xob WM K 7 := by
  rintro as σ ⟨rfl, hpre⟩
  exact ⟨_, _, rfl, by first | exact hpre | exact hpre.1 | exact obT hpre | exact obT hpre.1 | exact obS hpre | exact obS hpre.1 | exact obM | exact ob6 | exact ob2 | exact ob0⟩
