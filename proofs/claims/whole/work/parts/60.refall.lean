/-! the image, and what was ahead of a text: arrays carried out and back -/
def cpI (A T f n : Nat) (σ : xS) : xS := (fun a c => if a = A ∧ c < n then σ.1 T (f + c) else σ.1 a c, σ.2)
def cpO (A T f n : Nat) (σ : xS) : xS := (fun a c => if a = T ∧ f ≤ c ∧ c < f + n then σ.1 A (c - f) else σ.1 a c, σ.2)
theorem cpI_o {A T f n a c : Nat} {σ : xS} (h : a ≠ A) : (cpI A T f n σ).1 a c = σ.1 a c := if_neg (fun q => h q.1)
theorem cpO_o {A T f n a c : Nat} {σ : xS} (h : a ≠ T) : (cpO A T f n σ).1 a c = σ.1 a c := if_neg (fun q => h q.1)
theorem cpI_s {A T f i : Nat} {σ : xS} : xI (cpI A T f i σ) A i (σ.1 T (f + i)) = cpI A T f (i + 1) σ := by
  refine xS_e (fun a c => ?_) (fun a c => rfl)
  show (if a = A ∧ c = i then σ.1 T (f + i) else if a = A ∧ c < i then σ.1 T (f + c) else σ.1 a c) = if a = A ∧ c < i + 1 then σ.1 T (f + c) else σ.1 a c
  by_cases h1 : a = A ∧ c = i
  · rw [if_pos h1, if_pos ⟨h1.1, by omega⟩, h1.2]
  · rw [if_neg h1]
    by_cases h2 : a = A ∧ c < i
    · rw [if_pos h2, if_pos ⟨h2.1, by omega⟩]
    · rw [if_neg h2, if_neg (by omega)]
theorem cpI_0 {A T f : Nat} {σ : xS} : cpI A T f 0 σ = σ := by
  refine xS_e (fun a c => ?_) (fun a c => rfl)
  show (if a = A ∧ c < 0 then σ.1 T (f + c) else σ.1 a c) = σ.1 a c
  rw [if_neg (by omega)]
theorem cpO_s {A T f i : Nat} {σ : xS} : xI (cpO A T f i σ) T (f + i) (σ.1 A i) = cpO A T f (i + 1) σ := by
  refine xS_e (fun a c => ?_) (fun a c => rfl)
  show (if a = T ∧ c = f + i then σ.1 A i else if a = T ∧ f ≤ c ∧ c < f + i then σ.1 A (c - f) else σ.1 a c) = if a = T ∧ f ≤ c ∧ c < f + (i + 1) then σ.1 A (c - f) else σ.1 a c
  by_cases h1 : a = T ∧ c = f + i
  · rw [if_pos h1, if_pos ⟨h1.1, by omega, by omega⟩, h1.2, Nat.add_sub_cancel_left]
  · rw [if_neg h1]
    by_cases h2 : a = T ∧ f ≤ c ∧ c < f + i
    · rw [if_pos h2, if_pos ⟨h2.1, by omega, by omega⟩]
    · rw [if_neg h2, if_neg (by omega)]
theorem cpO_0 {A T f : Nat} {σ : xS} : cpO A T f 0 σ = σ := by
  refine xS_e (fun a c => ?_) (fun a c => rfl)
  show (if a = T ∧ f ≤ c ∧ c < f + 0 then σ.1 A (c - f) else σ.1 a c) = σ.1 a c
  rw [if_neg (by omega)]
def crP (la lt : Nat) (f n : Int32) : Prop := 0 ≤ f ∧ 0 ≤ n ∧ tn n ≤ la ∧ tn f + tn n ≤ lt ∧ la ≤ 1000 ∧ lt ≤ 1000
theorem crP_0 : crP 64 200 0 64 = True := eq_true ⟨by decide, by decide, by decide, by decide, by decide, by decide⟩
theorem crP_64 : crP 8 200 64 8 = True := eq_true ⟨by decide, by decide, by decide, by decide, by decide, by decide⟩
theorem crP_72 : crP 8 200 72 8 = True := eq_true ⟨by decide, by decide, by decide, by decide, by decide, by decide⟩
theorem crP_80 : crP 49 200 80 49 = True := eq_true ⟨by decide, by decide, by decide, by decide, by decide, by decide⟩
theorem crP_129 : crP 6 200 129 6 = True := eq_true ⟨by decide, by decide, by decide, by decide, by decide, by decide⟩
theorem crP_135 : crP 6 200 135 6 = True := eq_true ⟨by decide, by decide, by decide, by decide, by decide, by decide⟩
theorem crP_141 : crP 6 200 141 6 = True := eq_true ⟨by decide, by decide, by decide, by decide, by decide, by decide⟩
theorem crP_147 : crP 6 200 147 6 = True := eq_true ⟨by decide, by decide, by decide, by decide, by decide, by decide⟩
theorem crP_153 : crP 6 200 153 6 = True := eq_true ⟨by decide, by decide, by decide, by decide, by decide, by decide⟩
theorem crP_159 : crP 6 200 159 6 = True := eq_true ⟨by decide, by decide, by decide, by decide, by decide, by decide⟩
theorem crP_165 : crP 6 200 165 6 = True := eq_true ⟨by decide, by decide, by decide, by decide, by decide, by decide⟩
theorem crA_0 : (0 : Int32) + 64 = 64 := by decide
theorem crA_64 : (64 : Int32) + 8 = 72 := by decide
theorem crA_72 : (72 : Int32) + 8 = 80 := by decide
theorem crA_80 : (80 : Int32) + 49 = 129 := by decide
theorem crA_129 : (129 : Int32) + 6 = 135 := by decide
theorem crA_135 : (135 : Int32) + 6 = 141 := by decide
theorem crA_141 : (141 : Int32) + 6 = 147 := by decide
theorem crA_147 : (147 : Int32) + 6 = 153 := by decide
theorem crA_153 : (153 : Int32) + 6 = 159 := by decide
theorem crA_159 : (159 : Int32) + 6 = 165 := by decide
theorem crA_165 : (165 : Int32) + 6 = 171 := by decide
def pX7_carries (as : List Value) (σ : xS) : Prop := ∃ (A : Nat) (n : Int32) (T : Nat) (f : Int32) (b : Int32), as = [.ref 0, .ref A, .int n, .ref T, .int f, .int b] ∧ ((xar WM A 0) ∧ (xar WM T 0) ∧ (¬ A = T) ∧ (crP (WM.2.2.1 A) (WM.2.2.1 T) f n))
def fX7_carries (as : List Value) (σ : xS) : Option Value × xS := match as with
  | [.ref 0, .ref A, .int n, .ref T, .int f, .int b] => (some (.int (f + n)), (if b = 0 then cpO A T (tn f) (tn n) σ else cpI A T (tn f) (tn n) σ))
  | _ => (none, σ)
theorem pX7_carries_e {A : Nat} {n : Int32} {T : Nat} {f : Int32} {b : Int32} {σ : xS} : pX7_carries [.ref 0, .ref A, .int n, .ref T, .int f, .int b] σ = ((xar WM A 0) ∧ (xar WM T 0) ∧ (¬ A = T) ∧ (crP (WM.2.2.1 A) (WM.2.2.1 T) f n)) := propext ⟨fun h => by obtain ⟨A, n, T, f, b, e, h⟩ := h; cases e; exact h, fun h => ⟨A, n, T, f, b, rfl, h⟩⟩
theorem fX7_carries_e {A : Nat} {n : Int32} {T : Nat} {f : Int32} {b : Int32} {σ : xS} : fX7_carries [.ref 0, .ref A, .int n, .ref T, .int f, .int b] σ = (some (.int (f + n)), (if b = 0 then cpO A T (tn f) (tn n) σ else cpI A T (tn f) (tn n) σ)) := rfl
def calX7_carries : List (Nat × xCall) := []
set_option maxHeartbeats 1000000 in
set_option maxRecDepth 100000 in
theorem mX7_carries : xMet WM yX7_carries cX7_carries 7 (some .int) 1 pX7_carries fX7_carries := by
  refine xMet_of (fld := xlk fldX7) (cal := xlk calX7_carries) (ks := xlk []) (gs := xlk []) (ro := fun _ => none) 0 (by decide) WM_nd rfl fldX7_ok xKs_nil xGs_nil (Or.inr rfl) xcal_nil ?_ ?_
  · rintro av σ ⟨A, n, T, f, b, rfl, hpre⟩
    exact Nat.le_of_ble_eq_true rfl
  rintro av σ ⟨A, n, T, f, b, rfl, ⟨hp1, hp2, hp3, hp4⟩⟩ Rt hR
  obtain ⟨c0, c1, c2, c3, c4, c5⟩ := id hp4
  have hA := hp1
  have hT := hp2
  by_cases hb : b = 0
  · rw [fX7_carries_e, if_pos hb] at hR
    have h1 : ∀ i, i ≤ tn n → xGo WM 7 (xlk fldX7) (xlk calX7_carries) (xlk []) (xlk []) (fun _ => none) 0 cX7_carries Rt 3 [some (.ref 0), some (.ref A), some (.int n), some (.ref T), some (.int f), some (.int b), some (.int (nI i))] [] (cpO A T (tn f) i σ) := by
      refine xcount (tn n) (fun i => xGo WM 7 (xlk fldX7) (xlk calX7_carries) (xlk []) (xlk []) (fun _ => none) 0 cX7_carries Rt 3 [some (.ref 0), some (.ref A), some (.int n), some (.ref T), some (.int f), some (.int b), some (.int (nI i))] [] (cpO A T (tn f) i σ)) (fun i hi ih => ?_)
      have hc := le_nI_tn (i := i) (x := n) hi
      have e0i : 0 ≤ nI i := nI_pos' (by omega)
      have e1i : nI i + 1 = nI (i + 1) := nI_1 i
      have e2i : tn (nI i) = i := tn_nI (by omega)
      have ef : f + nI i = nI (tn f + i) := by rw [← nI_add, tn_of c0]
      have q0 : 0 ≤ nI (tn f + i) := nI_pos' (by omega)
      have q1 : tn (nI (tn f + i)) = tn f + i := tn_nI (by omega)
      have rdA : ∀ c, (cpO A T (tn f) i σ).1 A c = σ.1 A c := fun c => cpO_o hp3
      have rdT : True := trivial
      refine xtoCs [(3, xPc (i < tn n) [some (.ref 0), some (.ref A), some (.int n), some (.ref T), some (.int f), some (.int b), some (.int (nI (i + 1)))] (cpO A T (tn f) (i + 1) σ))] (xcs_cons (ih) xcs_nil) 24 (fun cf hcf => ?_)
      have k3 : cf 3 = some (xPc (i < tn n) [some (.ref 0), some (.ref A), some (.int n), some (.ref T), some (.int f), some (.int b), some (.int (nI (i + 1)))] (cpO A T (tn f) (i + 1) σ)) := (hcf 3).trans rfl
      have kn : ∀ pc, ¬ pc = 3 → cf pc = none := fun pc h0 => by rw [hcf, xlk_c, if_neg h0, xlk_n]
      clear hcf
      simp (config := {maxSteps := 4000000, implicitDefEqProofs := false}) only [xwp_2, xwp_0, xwp_1, xws_s, xdd_o, xld_0, xld_s, xs1_0, xs1_1, xs1_s, xs2_0, xs2_1, xs2_s, xlg_n, xlg_i, xlg_r, xlg_z, xlg_l, xf4_0, xf4_1, xf4_2, xf4_3, xgo_e, xcmp_eq, xcmp_ne, xcmp_lt, xcmp_ge, xcmp_gt, xcmp_le, xfg_0, xfg_1, xfg_2, xfg_3, xfg_4, xpop_0, xpop_s, xsw_n, xsw_c, xtb_n, xtb_c, xenp_n, xenp_i, xenp_r, xenp_z, xenp_l, xrep_0, xrep_s, Nat.reduceSub, true_and, and_true, cat_i, cat_r, Nat.reduceAdd, Nat.reduceLT, Nat.reduceLeDiff, Nat.reduceEqDiff, xnc, Int.reduceAdd, Int.reduceSub, Int.reduceNeg, Int.reduceLE, Int.reduceLT, Int.reduceToNat, ↓reduceIte, List.length_cons, List.length_nil, xlc0, xlc1, ite_10, i10, i01, i0_2, i0_3, i0_4, i0_6, i0_7, i0_8, i0_49, i0_10, or_true, true_or, or_false, false_or, not_false_eq_true, not_true_eq_false, xnt, xI_g, eq_self, xI_2, xJ_1, false_and, and_false, obM_t, rMi, vp_tn, tn_def, lgc, nI8, nI6, nI160, nI20, nI401, nI49, aM_6, aM_7, aM_8, aM_9, aM_10, aM_11, aM_12, aM_13, aM_14, aM_15, aM_16, aM_17, aM_18, aM_19, aM_20, aM_21, aM_22, aM_23, aM_24, aM_25, aM_26, aM_27, aM_28, aM_29, aM_30, aM_31, aM_38, aM_39, aM_40, aM_41, aM_42, aM_43, aM_44, aM_45, aM_46, aM_47, lM_6, lM_7, lM_8, lM_9, lM_10, lM_11, lM_12, lM_13, lM_14, lM_15, lM_16, lM_17, lM_18, lM_19, lM_20, lM_21, lM_22, lM_23, lM_24, lM_25, lM_26, lM_27, lM_28, lM_29, lM_30, lM_31, lM_38, lM_39, lM_40, lM_41, lM_42, lM_43, lM_44, lM_45, lM_46, lM_47, dX7_carries_0, st_iconst, dX7_carries_1, st_istore, dX7_carries_3, st_iload, dX7_carries_5, st_iload_n, dX7_carries_6, st_if_icmp, dX7_carries_9, dX7_carries_11, st_ifCond, dX7_carries_14, st_aload_n, dX7_carries_15, dX7_carries_17, dX7_carries_18, dX7_carries_20, dX7_carries_22, st_iadd, dX7_carries_23, st_iaload, dX7_carries_24, st_iastore, dX7_carries_25, st_goto, dX7_carries_28, dX7_carries_29, dX7_carries_31, dX7_carries_33, dX7_carries_34, dX7_carries_35, dX7_carries_37, dX7_carries_38, dX7_carries_39, st_iinc, dX7_carries_42, dX7_carries_45, dX7_carries_47, dX7_carries_48, dX7_carries_49, st_ireturn, ofI_0, ofJ_1, hp1, hp2, hp3, hp4, xwp_s, xcu_s, xcu_n, xPc_e, xsub_0, xsub_n, xsub_s, k3, kn, hc, e0i, e1i, e2i, ef, q0, q1, hb, hA, hT, rdA, rdT, cpO_s]
      have fin : ¬ i < tn n → cpO A T (tn f) i σ = cpO A T (tn f) (tn n) σ := fun h => by rw [show i = tn n by omega]
      have h8 : i < tn n → i < WM.2.2.1 A ∧ tn f + i < WM.2.2.1 T := fun h => by omega
      simp only [hR, and_true, true_and]
      clear hR hc ih rdA rdT
      generalize cpO A T (tn f) (tn n) σ = Z at *
      generalize cpO A T (tn f) i σ = U at *
      grind (splits := 40)
    refine xtoC [(3, xPc (True) [some (.ref 0), some (.ref A), some (.int n), some (.ref T), some (.int f), some (.int b), some (.int (nI 0))] (cpO A T (tn f) 0 σ))] (xcs_cons (fun _ => h1 0 (Nat.zero_le _)) xcs_nil) 6 (fun cf hcf => ?_)
    have k3 : cf 3 = some (xPc (True) [some (.ref 0), some (.ref A), some (.int n), some (.ref T), some (.int f), some (.int b), some (.int (nI 0))] (cpO A T (tn f) 0 σ)) := (hcf 3).trans rfl
    have kn : ∀ pc, ¬ pc = 3 → cf pc = none := fun pc h0 => by rw [hcf, xlk_c, if_neg h0, xlk_n]
    clear hcf
    simp (config := {maxSteps := 4000000, implicitDefEqProofs := false}) only [xwp_2, xwp_0, xwp_1, xws_s, xdd_o, xld_0, xld_s, xs1_0, xs1_1, xs1_s, xs2_0, xs2_1, xs2_s, xlg_n, xlg_i, xlg_r, xlg_z, xlg_l, xf4_0, xf4_1, xf4_2, xf4_3, xgo_e, xcmp_eq, xcmp_ne, xcmp_lt, xcmp_ge, xcmp_gt, xcmp_le, xfg_0, xfg_1, xfg_2, xfg_3, xfg_4, xpop_0, xpop_s, xsw_n, xsw_c, xtb_n, xtb_c, xenp_n, xenp_i, xenp_r, xenp_z, xenp_l, xrep_0, xrep_s, Nat.reduceSub, true_and, and_true, cat_i, cat_r, Nat.reduceAdd, Nat.reduceLT, Nat.reduceLeDiff, Nat.reduceEqDiff, xnc, Int.reduceAdd, Int.reduceSub, Int.reduceNeg, Int.reduceLE, Int.reduceLT, Int.reduceToNat, ↓reduceIte, List.length_cons, List.length_nil, xlc0, xlc1, ite_10, i10, i01, i0_2, i0_3, i0_4, i0_6, i0_7, i0_8, i0_49, i0_10, or_true, true_or, or_false, false_or, not_false_eq_true, not_true_eq_false, xnt, xI_g, eq_self, xI_2, xJ_1, false_and, and_false, obM_t, rMi, vp_tn, tn_def, lgc, nI8, nI6, nI160, nI20, nI401, nI49, aM_6, aM_7, aM_8, aM_9, aM_10, aM_11, aM_12, aM_13, aM_14, aM_15, aM_16, aM_17, aM_18, aM_19, aM_20, aM_21, aM_22, aM_23, aM_24, aM_25, aM_26, aM_27, aM_28, aM_29, aM_30, aM_31, aM_38, aM_39, aM_40, aM_41, aM_42, aM_43, aM_44, aM_45, aM_46, aM_47, lM_6, lM_7, lM_8, lM_9, lM_10, lM_11, lM_12, lM_13, lM_14, lM_15, lM_16, lM_17, lM_18, lM_19, lM_20, lM_21, lM_22, lM_23, lM_24, lM_25, lM_26, lM_27, lM_28, lM_29, lM_30, lM_31, lM_38, lM_39, lM_40, lM_41, lM_42, lM_43, lM_44, lM_45, lM_46, lM_47, dX7_carries_0, st_iconst, dX7_carries_1, st_istore, dX7_carries_3, st_iload, dX7_carries_5, st_iload_n, dX7_carries_6, st_if_icmp, dX7_carries_9, dX7_carries_11, st_ifCond, dX7_carries_14, st_aload_n, dX7_carries_15, dX7_carries_17, dX7_carries_18, dX7_carries_20, dX7_carries_22, st_iadd, dX7_carries_23, st_iaload, dX7_carries_24, st_iastore, dX7_carries_25, st_goto, dX7_carries_28, dX7_carries_29, dX7_carries_31, dX7_carries_33, dX7_carries_34, dX7_carries_35, dX7_carries_37, dX7_carries_38, dX7_carries_39, st_iinc, dX7_carries_42, dX7_carries_45, dX7_carries_47, dX7_carries_48, dX7_carries_49, st_ireturn, ofI_0, ofJ_1, hp1, hp2, hp3, hp4, xwp_s, xcu_s, xcu_n, xPc_e, xsub_0, xsub_n, xsub_s, k3, kn, nI_00, cpO_0]
    try simp
  · rw [fX7_carries_e, if_neg hb] at hR
    have h1 : ∀ i, i ≤ tn n → xGo WM 7 (xlk fldX7) (xlk calX7_carries) (xlk []) (xlk []) (fun _ => none) 0 cX7_carries Rt 3 [some (.ref 0), some (.ref A), some (.int n), some (.ref T), some (.int f), some (.int b), some (.int (nI i))] [] (cpI A T (tn f) i σ) := by
      refine xcount (tn n) (fun i => xGo WM 7 (xlk fldX7) (xlk calX7_carries) (xlk []) (xlk []) (fun _ => none) 0 cX7_carries Rt 3 [some (.ref 0), some (.ref A), some (.int n), some (.ref T), some (.int f), some (.int b), some (.int (nI i))] [] (cpI A T (tn f) i σ)) (fun i hi ih => ?_)
      have hc := le_nI_tn (i := i) (x := n) hi
      have e0i : 0 ≤ nI i := nI_pos' (by omega)
      have e1i : nI i + 1 = nI (i + 1) := nI_1 i
      have e2i : tn (nI i) = i := tn_nI (by omega)
      have ef : f + nI i = nI (tn f + i) := by rw [← nI_add, tn_of c0]
      have q0 : 0 ≤ nI (tn f + i) := nI_pos' (by omega)
      have q1 : tn (nI (tn f + i)) = tn f + i := tn_nI (by omega)
      have rdT : ∀ c, (cpI A T (tn f) i σ).1 T c = σ.1 T c := fun c => cpI_o (fun q => hp3 q.symm)
      have rdA : True := trivial
      refine xtoCs [(3, xPc (i < tn n) [some (.ref 0), some (.ref A), some (.int n), some (.ref T), some (.int f), some (.int b), some (.int (nI (i + 1)))] (cpI A T (tn f) (i + 1) σ))] (xcs_cons (ih) xcs_nil) 24 (fun cf hcf => ?_)
      have k3 : cf 3 = some (xPc (i < tn n) [some (.ref 0), some (.ref A), some (.int n), some (.ref T), some (.int f), some (.int b), some (.int (nI (i + 1)))] (cpI A T (tn f) (i + 1) σ)) := (hcf 3).trans rfl
      have kn : ∀ pc, ¬ pc = 3 → cf pc = none := fun pc h0 => by rw [hcf, xlk_c, if_neg h0, xlk_n]
      clear hcf
      simp (config := {maxSteps := 4000000, implicitDefEqProofs := false}) only [xwp_2, xwp_0, xwp_1, xws_s, xdd_o, xld_0, xld_s, xs1_0, xs1_1, xs1_s, xs2_0, xs2_1, xs2_s, xlg_n, xlg_i, xlg_r, xlg_z, xlg_l, xf4_0, xf4_1, xf4_2, xf4_3, xgo_e, xcmp_eq, xcmp_ne, xcmp_lt, xcmp_ge, xcmp_gt, xcmp_le, xfg_0, xfg_1, xfg_2, xfg_3, xfg_4, xpop_0, xpop_s, xsw_n, xsw_c, xtb_n, xtb_c, xenp_n, xenp_i, xenp_r, xenp_z, xenp_l, xrep_0, xrep_s, Nat.reduceSub, true_and, and_true, cat_i, cat_r, Nat.reduceAdd, Nat.reduceLT, Nat.reduceLeDiff, Nat.reduceEqDiff, xnc, Int.reduceAdd, Int.reduceSub, Int.reduceNeg, Int.reduceLE, Int.reduceLT, Int.reduceToNat, ↓reduceIte, List.length_cons, List.length_nil, xlc0, xlc1, ite_10, i10, i01, i0_2, i0_3, i0_4, i0_6, i0_7, i0_8, i0_49, i0_10, or_true, true_or, or_false, false_or, not_false_eq_true, not_true_eq_false, xnt, xI_g, eq_self, xI_2, xJ_1, false_and, and_false, obM_t, rMi, vp_tn, tn_def, lgc, nI8, nI6, nI160, nI20, nI401, nI49, aM_6, aM_7, aM_8, aM_9, aM_10, aM_11, aM_12, aM_13, aM_14, aM_15, aM_16, aM_17, aM_18, aM_19, aM_20, aM_21, aM_22, aM_23, aM_24, aM_25, aM_26, aM_27, aM_28, aM_29, aM_30, aM_31, aM_38, aM_39, aM_40, aM_41, aM_42, aM_43, aM_44, aM_45, aM_46, aM_47, lM_6, lM_7, lM_8, lM_9, lM_10, lM_11, lM_12, lM_13, lM_14, lM_15, lM_16, lM_17, lM_18, lM_19, lM_20, lM_21, lM_22, lM_23, lM_24, lM_25, lM_26, lM_27, lM_28, lM_29, lM_30, lM_31, lM_38, lM_39, lM_40, lM_41, lM_42, lM_43, lM_44, lM_45, lM_46, lM_47, dX7_carries_0, st_iconst, dX7_carries_1, st_istore, dX7_carries_3, st_iload, dX7_carries_5, st_iload_n, dX7_carries_6, st_if_icmp, dX7_carries_9, dX7_carries_11, st_ifCond, dX7_carries_14, st_aload_n, dX7_carries_15, dX7_carries_17, dX7_carries_18, dX7_carries_20, dX7_carries_22, st_iadd, dX7_carries_23, st_iaload, dX7_carries_24, st_iastore, dX7_carries_25, st_goto, dX7_carries_28, dX7_carries_29, dX7_carries_31, dX7_carries_33, dX7_carries_34, dX7_carries_35, dX7_carries_37, dX7_carries_38, dX7_carries_39, st_iinc, dX7_carries_42, dX7_carries_45, dX7_carries_47, dX7_carries_48, dX7_carries_49, st_ireturn, ofI_0, ofJ_1, hp1, hp2, hp3, hp4, xwp_s, xcu_s, xcu_n, xPc_e, xsub_0, xsub_n, xsub_s, k3, kn, hc, e0i, e1i, e2i, ef, q0, q1, hb, hA, hT, rdA, rdT, cpI_s]
      have fin : ¬ i < tn n → cpI A T (tn f) i σ = cpI A T (tn f) (tn n) σ := fun h => by rw [show i = tn n by omega]
      have h8 : i < tn n → i < WM.2.2.1 A ∧ tn f + i < WM.2.2.1 T := fun h => by omega
      simp only [hR, and_true, true_and]
      clear hR hc ih rdA rdT
      generalize cpI A T (tn f) (tn n) σ = Z at *
      generalize cpI A T (tn f) i σ = U at *
      grind (splits := 40)
    refine xtoC [(3, xPc (True) [some (.ref 0), some (.ref A), some (.int n), some (.ref T), some (.int f), some (.int b), some (.int (nI 0))] (cpI A T (tn f) 0 σ))] (xcs_cons (fun _ => h1 0 (Nat.zero_le _)) xcs_nil) 6 (fun cf hcf => ?_)
    have k3 : cf 3 = some (xPc (True) [some (.ref 0), some (.ref A), some (.int n), some (.ref T), some (.int f), some (.int b), some (.int (nI 0))] (cpI A T (tn f) 0 σ)) := (hcf 3).trans rfl
    have kn : ∀ pc, ¬ pc = 3 → cf pc = none := fun pc h0 => by rw [hcf, xlk_c, if_neg h0, xlk_n]
    clear hcf
    simp (config := {maxSteps := 4000000, implicitDefEqProofs := false}) only [xwp_2, xwp_0, xwp_1, xws_s, xdd_o, xld_0, xld_s, xs1_0, xs1_1, xs1_s, xs2_0, xs2_1, xs2_s, xlg_n, xlg_i, xlg_r, xlg_z, xlg_l, xf4_0, xf4_1, xf4_2, xf4_3, xgo_e, xcmp_eq, xcmp_ne, xcmp_lt, xcmp_ge, xcmp_gt, xcmp_le, xfg_0, xfg_1, xfg_2, xfg_3, xfg_4, xpop_0, xpop_s, xsw_n, xsw_c, xtb_n, xtb_c, xenp_n, xenp_i, xenp_r, xenp_z, xenp_l, xrep_0, xrep_s, Nat.reduceSub, true_and, and_true, cat_i, cat_r, Nat.reduceAdd, Nat.reduceLT, Nat.reduceLeDiff, Nat.reduceEqDiff, xnc, Int.reduceAdd, Int.reduceSub, Int.reduceNeg, Int.reduceLE, Int.reduceLT, Int.reduceToNat, ↓reduceIte, List.length_cons, List.length_nil, xlc0, xlc1, ite_10, i10, i01, i0_2, i0_3, i0_4, i0_6, i0_7, i0_8, i0_49, i0_10, or_true, true_or, or_false, false_or, not_false_eq_true, not_true_eq_false, xnt, xI_g, eq_self, xI_2, xJ_1, false_and, and_false, obM_t, rMi, vp_tn, tn_def, lgc, nI8, nI6, nI160, nI20, nI401, nI49, aM_6, aM_7, aM_8, aM_9, aM_10, aM_11, aM_12, aM_13, aM_14, aM_15, aM_16, aM_17, aM_18, aM_19, aM_20, aM_21, aM_22, aM_23, aM_24, aM_25, aM_26, aM_27, aM_28, aM_29, aM_30, aM_31, aM_38, aM_39, aM_40, aM_41, aM_42, aM_43, aM_44, aM_45, aM_46, aM_47, lM_6, lM_7, lM_8, lM_9, lM_10, lM_11, lM_12, lM_13, lM_14, lM_15, lM_16, lM_17, lM_18, lM_19, lM_20, lM_21, lM_22, lM_23, lM_24, lM_25, lM_26, lM_27, lM_28, lM_29, lM_30, lM_31, lM_38, lM_39, lM_40, lM_41, lM_42, lM_43, lM_44, lM_45, lM_46, lM_47, dX7_carries_0, st_iconst, dX7_carries_1, st_istore, dX7_carries_3, st_iload, dX7_carries_5, st_iload_n, dX7_carries_6, st_if_icmp, dX7_carries_9, dX7_carries_11, st_ifCond, dX7_carries_14, st_aload_n, dX7_carries_15, dX7_carries_17, dX7_carries_18, dX7_carries_20, dX7_carries_22, st_iadd, dX7_carries_23, st_iaload, dX7_carries_24, st_iastore, dX7_carries_25, st_goto, dX7_carries_28, dX7_carries_29, dX7_carries_31, dX7_carries_33, dX7_carries_34, dX7_carries_35, dX7_carries_37, dX7_carries_38, dX7_carries_39, st_iinc, dX7_carries_42, dX7_carries_45, dX7_carries_47, dX7_carries_48, dX7_carries_49, st_ireturn, ofI_0, ofJ_1, hp1, hp2, hp3, hp4, xwp_s, xcu_s, xcu_n, xPc_e, xsub_0, xsub_n, xsub_s, k3, kn, nI_00, cpI_0]
    try simp
theorem rX7_carries : ∀ as σ, pX7_carries as σ → ∃ K as', as = .ref K :: as' ∧ xob WM K 7 := by
  rintro as σ ⟨A, n, T, f, b, rfl, hpre⟩
  exact ⟨_, _, rfl, by first | exact hpre | exact hpre.1 | exact obT hpre | exact obT hpre.1 | exact obS hpre | exact obS hpre.1 | exact obM | exact ob6 | exact ob2 | exact ob0⟩
def sav0 (T : Nat) (σ : xS) : xS := cpO 17 T (tn 165) (tn 6) (cpO 16 T (tn 159) (tn 6) (cpO 15 T (tn 153) (tn 6) (cpO 14 T (tn 147) (tn 6) (cpO 13 T (tn 141) (tn 6) (cpO 12 T (tn 135) (tn 6) (cpO 11 T (tn 129) (tn 6) (cpO 10 T (tn 80) (tn 49) (cpO 9 T (tn 72) (tn 8) (cpO 8 T (tn 64) (tn 8) (cpO 7 T (tn 0) (tn 64) (σ)))))))))))
def lod0 (T : Nat) (σ : xS) : xS := cpI 17 T (tn 165) (tn 6) (cpI 16 T (tn 159) (tn 6) (cpI 15 T (tn 153) (tn 6) (cpI 14 T (tn 147) (tn 6) (cpI 13 T (tn 141) (tn 6) (cpI 12 T (tn 135) (tn 6) (cpI 11 T (tn 129) (tn 6) (cpI 10 T (tn 80) (tn 49) (cpI 9 T (tn 72) (tn 8) (cpI 8 T (tn 64) (tn 8) (cpI 7 T (tn 0) (tn 64) (σ)))))))))))
def savM (T : Nat) (σ : xS) : xS := xI (xI (xI (xI (xI (sav0 T σ) T 171 (σ.1 0 0)) T 172 (σ.1 0 1)) T 173 (σ.1 0 2)) T 174 (σ.1 0 3)) T 175 (σ.1 0 4)
def lodM (T : Nat) (σ : xS) : xS := xI (xI (xI (xI (xI (lod0 T σ) 0 0 (σ.1 T 171)) 0 1 (σ.1 T 172)) 0 2 (σ.1 T 173)) 0 3 (σ.1 T 174)) 0 4 (σ.1 T 175)
theorem sav0_o {T a c : Nat} {σ : xS} (h : a ≠ T) : (sav0 T σ).1 a c = σ.1 a c := by
  unfold sav0
  rw [cpO_o h, cpO_o h, cpO_o h, cpO_o h, cpO_o h, cpO_o h, cpO_o h, cpO_o h, cpO_o h, cpO_o h, cpO_o h]
theorem lod0_o {T a c : Nat} {σ : xS} (h : a < 7 ∨ 17 < a) : (lod0 T σ).1 a c = σ.1 a c := by
  unfold lod0
  rw [cpI_o (by omega), cpI_o (by omega), cpI_o (by omega), cpI_o (by omega), cpI_o (by omega), cpI_o (by omega), cpI_o (by omega), cpI_o (by omega), cpI_o (by omega), cpI_o (by omega), cpI_o (by omega)]
theorem sav0_f {T : Nat} {σ : xS} : cpO 17 T (tn 165) (tn 6) (cpO 16 T (tn 159) (tn 6) (cpO 15 T (tn 153) (tn 6) (cpO 14 T (tn 147) (tn 6) (cpO 13 T (tn 141) (tn 6) (cpO 12 T (tn 135) (tn 6) (cpO 11 T (tn 129) (tn 6) (cpO 10 T (tn 80) (tn 49) (cpO 9 T (tn 72) (tn 8) (cpO 8 T (tn 64) (tn 8) (cpO 7 T (tn 0) (tn 64) (σ))))))))))) = sav0 T σ := rfl
theorem lod0_f {T : Nat} {σ : xS} : cpI 17 T (tn 165) (tn 6) (cpI 16 T (tn 159) (tn 6) (cpI 15 T (tn 153) (tn 6) (cpI 14 T (tn 147) (tn 6) (cpI 13 T (tn 141) (tn 6) (cpI 12 T (tn 135) (tn 6) (cpI 11 T (tn 129) (tn 6) (cpI 10 T (tn 80) (tn 49) (cpI 9 T (tn 72) (tn 8) (cpI 8 T (tn 64) (tn 8) (cpI 7 T (tn 0) (tn 64) (σ))))))))))) = lod0 T σ := rfl
def pX7_all (as : List Value) (σ : xS) : Prop := ∃ (T : Nat) (b : Int32), as = [.ref 0, .ref T, .int b] ∧ (T = 38 ∨ T = 39)
def fX7_all (as : List Value) (σ : xS) : Option Value × xS := match as with
  | [.ref 0, .ref T, .int b] => (none, (if b = 0 then savM T σ else lodM T σ))
  | _ => (none, σ)
theorem pX7_all_e {T : Nat} {b : Int32} {σ : xS} : pX7_all [.ref 0, .ref T, .int b] σ = (T = 38 ∨ T = 39) := propext ⟨fun h => by obtain ⟨T, b, e, h⟩ := h; cases e; exact h, fun h => ⟨T, b, rfl, h⟩⟩
theorem fX7_all_e {T : Nat} {b : Int32} {σ : xS} : fX7_all [.ref 0, .ref T, .int b] σ = (none, (if b = 0 then savM T σ else lodM T σ)) := rfl
def calX7_all : List (Nat × xCall) := [(241, (false, 6, pX7_carries, fX7_carries))]
theorem c_X7_all_241 : xlk calX7_all 241 = some (false, 6, pX7_carries, fX7_carries) := rfl
set_option maxHeartbeats 1000000 in
set_option maxRecDepth 100000 in
theorem mX7_all : xMet WM yX7_all cX7_all 4 none 2 pX7_all fX7_all := by
  refine xMet_of (fld := xlk fldX7) (cal := xlk calX7_all) (ks := xlk []) (gs := xlk []) (ro := fun _ => none) 4 (by decide) WM_nd rfl fldX7_ok xKs_nil xGs_nil (Or.inr rfl) (xcal_cons (xCk_V mX7_carries 7 (by decide) (by decide) (by decide) rfl (fun as σ h _ => rX7_carries as σ h) w_X7_241 ⟨by decide, by decide, by decide +kernel⟩) xcal_nil) ?_ ?_
  · rintro av σ ⟨T, b, rfl, hpre⟩
    exact Nat.le_of_ble_eq_true rfl
  rintro av σ ⟨T, b, rfl, hp1⟩ Rt hR
  by_cases hb : b = 0
  · subst hb
    rw [fX7_all_e, if_pos rfl] at hR
    rcases id hp1 with hT | hT
    · subst hT
      have z0 : ∀ a c, a ≠ 38 → (sav0 38 σ).1 a c = σ.1 a c := fun a c h => sav0_o h
      have g0 : (sav0 38 σ).1 0 0 = σ.1 0 0 := z0 0 0 (by omega)
      have g1 : (sav0 38 σ).1 0 1 = σ.1 0 1 := z0 0 1 (by omega)
      have g2 : (sav0 38 σ).1 0 2 = σ.1 0 2 := z0 0 2 (by omega)
      have g3 : (sav0 38 σ).1 0 3 = σ.1 0 3 := z0 0 3 (by omega)
      have g4 : (sav0 38 σ).1 0 4 = σ.1 0 4 := z0 0 4 (by omega)
      have i171 : tn (171 : Int32) = 171 := rfl
      have j171 : (0 : Int32) ≤ 171 := by decide
      have i172 : tn (172 : Int32) = 172 := rfl
      have j172 : (0 : Int32) ≤ 172 := by decide
      have i173 : tn (173 : Int32) = 173 := rfl
      have j173 : (0 : Int32) ≤ 173 := by decide
      have i174 : tn (174 : Int32) = 174 := rfl
      have j174 : (0 : Int32) ≤ 174 := by decide
      have i175 : tn (175 : Int32) = 175 := rfl
      have j175 : (0 : Int32) ≤ 175 := by decide
      have k1 : (171 : Int32) + 1 = 172 := by decide
      have k2 : (171 : Int32) + 2 = 173 := by decide
      have k3 : (171 : Int32) + 3 = 174 := by decide
      have k4 : (171 : Int32) + 4 = 175 := by decide
      refine xgo0 171 ?_
      simp -implicitDefEqProofs only [xwp_2, xwp_0, xwp_1, xws_s, xdd_o, xld_0, xld_s, xs1_0, xs1_1, xs1_s, xs2_0, xs2_1, xs2_s, xlg_n, xlg_i, xlg_r, xlg_z, xlg_l, xf4_0, xf4_1, xf4_2, xf4_3, xgo_e, xcmp_eq, xcmp_ne, xcmp_lt, xcmp_ge, xcmp_gt, xcmp_le, xfg_0, xfg_1, xfg_2, xfg_3, xfg_4, xpop_0, xpop_s, xsw_n, xsw_c, xtb_n, xtb_c, xenp_n, xenp_i, xenp_r, xenp_z, xenp_l, xrep_0, xrep_s, Nat.reduceSub, true_and, and_true, cat_i, cat_r, Nat.reduceAdd, Nat.reduceLT, Nat.reduceLeDiff, Nat.reduceEqDiff, xnc, Int.reduceAdd, Int.reduceSub, Int.reduceNeg, Int.reduceLE, Int.reduceLT, Int.reduceToNat, ↓reduceIte, List.length_cons, List.length_nil, xlc0, xlc1, ite_10, i10, i01, i0_2, i0_3, i0_4, i0_6, i0_7, i0_8, i0_49, i0_10, or_true, true_or, or_false, false_or, not_false_eq_true, not_true_eq_false, xnt, xI_g, eq_self, xI_2, xJ_1, false_and, and_false, obM_t, rMi, vp_tn, tn_def, lgc, nI8, nI6, nI160, nI20, nI401, nI49, aM_6, aM_7, aM_8, aM_9, aM_10, aM_11, aM_12, aM_13, aM_14, aM_15, aM_16, aM_17, aM_18, aM_19, aM_20, aM_21, aM_22, aM_23, aM_24, aM_25, aM_26, aM_27, aM_28, aM_29, aM_30, aM_31, aM_38, aM_39, aM_40, aM_41, aM_42, aM_43, aM_44, aM_45, aM_46, aM_47, lM_6, lM_7, lM_8, lM_9, lM_10, lM_11, lM_12, lM_13, lM_14, lM_15, lM_16, lM_17, lM_18, lM_19, lM_20, lM_21, lM_22, lM_23, lM_24, lM_25, lM_26, lM_27, lM_28, lM_29, lM_30, lM_31, lM_38, lM_39, lM_40, lM_41, lM_42, lM_43, lM_44, lM_45, lM_46, lM_47, dX7_all_0, st_aload_n, dX7_all_1, dX7_all_2, st_getfield, fl_X7_20, dX7_all_5, st_bipush, dX7_all_7, dX7_all_8, st_iconst, dX7_all_9, st_iload_n, dX7_all_10, st_invokevirtual, dX7_all_13, st_istore_n, dX7_all_14, dX7_all_15, dX7_all_16, fl_X7_23, dX7_all_19, dX7_all_21, dX7_all_22, dX7_all_23, dX7_all_24, dX7_all_27, dX7_all_28, dX7_all_29, dX7_all_30, fl_X7_26, dX7_all_33, dX7_all_35, dX7_all_36, dX7_all_37, dX7_all_38, dX7_all_41, dX7_all_42, dX7_all_43, dX7_all_44, fl_X7_29, dX7_all_47, dX7_all_49, dX7_all_50, dX7_all_51, dX7_all_52, dX7_all_55, dX7_all_56, dX7_all_57, dX7_all_58, fl_X7_32, dX7_all_61, dX7_all_63, dX7_all_64, dX7_all_65, dX7_all_66, dX7_all_69, dX7_all_70, dX7_all_71, dX7_all_72, fl_X7_35, dX7_all_75, dX7_all_77, dX7_all_78, dX7_all_79, dX7_all_80, dX7_all_83, dX7_all_84, dX7_all_85, dX7_all_86, fl_X7_38, dX7_all_89, dX7_all_91, dX7_all_92, dX7_all_93, dX7_all_94, dX7_all_97, dX7_all_98, dX7_all_99, dX7_all_100, fl_X7_41, dX7_all_103, dX7_all_105, dX7_all_106, dX7_all_107, dX7_all_108, dX7_all_111, dX7_all_112, dX7_all_113, dX7_all_114, fl_X7_44, dX7_all_117, dX7_all_119, dX7_all_120, dX7_all_121, dX7_all_122, dX7_all_125, dX7_all_126, dX7_all_127, dX7_all_128, fl_X7_47, dX7_all_131, dX7_all_133, dX7_all_134, dX7_all_135, dX7_all_136, dX7_all_139, dX7_all_140, dX7_all_141, dX7_all_142, fl_X7_50, dX7_all_145, dX7_all_147, dX7_all_148, dX7_all_149, dX7_all_150, dX7_all_153, dX7_all_154, dX7_all_155, st_ifCond, dX7_all_158, dX7_all_159, dX7_all_160, dX7_all_161, st_iaload, dX7_all_162, st_putfield, fl_X7_129, dX7_all_165, dX7_all_166, dX7_all_167, dX7_all_168, dX7_all_169, st_iadd, dX7_all_170, dX7_all_171, fl_X7_126, dX7_all_174, dX7_all_175, dX7_all_176, dX7_all_177, dX7_all_178, dX7_all_179, dX7_all_180, fl_X7_245, dX7_all_183, dX7_all_184, dX7_all_185, dX7_all_186, dX7_all_187, dX7_all_188, dX7_all_189, fl_X7_248, dX7_all_192, dX7_all_193, dX7_all_194, dX7_all_195, dX7_all_196, dX7_all_197, dX7_all_198, fl_X7_7, dX7_all_201, st_goto, dX7_all_204, dX7_all_205, dX7_all_206, dX7_all_207, dX7_all_210, st_iastore, dX7_all_211, dX7_all_212, dX7_all_213, dX7_all_214, dX7_all_215, dX7_all_216, dX7_all_219, dX7_all_220, dX7_all_221, dX7_all_222, dX7_all_223, dX7_all_224, dX7_all_225, dX7_all_228, dX7_all_229, dX7_all_230, dX7_all_231, dX7_all_232, dX7_all_233, dX7_all_234, dX7_all_237, dX7_all_238, dX7_all_239, dX7_all_240, dX7_all_241, dX7_all_242, dX7_all_243, dX7_all_246, dX7_all_247, st_return_, c_X7_all_241, pX7_carries_e, fX7_carries_e, Option.toList_some, Option.toList_none, List.cons_append, List.nil_append, ofI_64, ofI_0, ofI_8, ofI_49, ofI_6, ofJ_1, ofJ_2, ofJ_3, ofI_4, hp1, crP_0, crP_64, crP_72, crP_80, crP_129, crP_135, crP_141, crP_147, crP_153, crP_159, crP_165, crA_0, crA_64, crA_72, crA_80, crA_129, crA_135, crA_141, crA_147, crA_153, crA_159, crA_165, aM_38, lM_38, sav0_f, g0, g1, g2, g3, g4, i171, j171, i172, j172, i173, j173, i174, j174, i175, j175, k1, k2, k3, k4]
      simp only [hR, savM, and_self]
      simp
    · subst hT
      have z0 : ∀ a c, a ≠ 39 → (sav0 39 σ).1 a c = σ.1 a c := fun a c h => sav0_o h
      have g0 : (sav0 39 σ).1 0 0 = σ.1 0 0 := z0 0 0 (by omega)
      have g1 : (sav0 39 σ).1 0 1 = σ.1 0 1 := z0 0 1 (by omega)
      have g2 : (sav0 39 σ).1 0 2 = σ.1 0 2 := z0 0 2 (by omega)
      have g3 : (sav0 39 σ).1 0 3 = σ.1 0 3 := z0 0 3 (by omega)
      have g4 : (sav0 39 σ).1 0 4 = σ.1 0 4 := z0 0 4 (by omega)
      have i171 : tn (171 : Int32) = 171 := rfl
      have j171 : (0 : Int32) ≤ 171 := by decide
      have i172 : tn (172 : Int32) = 172 := rfl
      have j172 : (0 : Int32) ≤ 172 := by decide
      have i173 : tn (173 : Int32) = 173 := rfl
      have j173 : (0 : Int32) ≤ 173 := by decide
      have i174 : tn (174 : Int32) = 174 := rfl
      have j174 : (0 : Int32) ≤ 174 := by decide
      have i175 : tn (175 : Int32) = 175 := rfl
      have j175 : (0 : Int32) ≤ 175 := by decide
      have k1 : (171 : Int32) + 1 = 172 := by decide
      have k2 : (171 : Int32) + 2 = 173 := by decide
      have k3 : (171 : Int32) + 3 = 174 := by decide
      have k4 : (171 : Int32) + 4 = 175 := by decide
      refine xgo0 171 ?_
      simp -implicitDefEqProofs only [xwp_2, xwp_0, xwp_1, xws_s, xdd_o, xld_0, xld_s, xs1_0, xs1_1, xs1_s, xs2_0, xs2_1, xs2_s, xlg_n, xlg_i, xlg_r, xlg_z, xlg_l, xf4_0, xf4_1, xf4_2, xf4_3, xgo_e, xcmp_eq, xcmp_ne, xcmp_lt, xcmp_ge, xcmp_gt, xcmp_le, xfg_0, xfg_1, xfg_2, xfg_3, xfg_4, xpop_0, xpop_s, xsw_n, xsw_c, xtb_n, xtb_c, xenp_n, xenp_i, xenp_r, xenp_z, xenp_l, xrep_0, xrep_s, Nat.reduceSub, true_and, and_true, cat_i, cat_r, Nat.reduceAdd, Nat.reduceLT, Nat.reduceLeDiff, Nat.reduceEqDiff, xnc, Int.reduceAdd, Int.reduceSub, Int.reduceNeg, Int.reduceLE, Int.reduceLT, Int.reduceToNat, ↓reduceIte, List.length_cons, List.length_nil, xlc0, xlc1, ite_10, i10, i01, i0_2, i0_3, i0_4, i0_6, i0_7, i0_8, i0_49, i0_10, or_true, true_or, or_false, false_or, not_false_eq_true, not_true_eq_false, xnt, xI_g, eq_self, xI_2, xJ_1, false_and, and_false, obM_t, rMi, vp_tn, tn_def, lgc, nI8, nI6, nI160, nI20, nI401, nI49, aM_6, aM_7, aM_8, aM_9, aM_10, aM_11, aM_12, aM_13, aM_14, aM_15, aM_16, aM_17, aM_18, aM_19, aM_20, aM_21, aM_22, aM_23, aM_24, aM_25, aM_26, aM_27, aM_28, aM_29, aM_30, aM_31, aM_38, aM_39, aM_40, aM_41, aM_42, aM_43, aM_44, aM_45, aM_46, aM_47, lM_6, lM_7, lM_8, lM_9, lM_10, lM_11, lM_12, lM_13, lM_14, lM_15, lM_16, lM_17, lM_18, lM_19, lM_20, lM_21, lM_22, lM_23, lM_24, lM_25, lM_26, lM_27, lM_28, lM_29, lM_30, lM_31, lM_38, lM_39, lM_40, lM_41, lM_42, lM_43, lM_44, lM_45, lM_46, lM_47, dX7_all_0, st_aload_n, dX7_all_1, dX7_all_2, st_getfield, fl_X7_20, dX7_all_5, st_bipush, dX7_all_7, dX7_all_8, st_iconst, dX7_all_9, st_iload_n, dX7_all_10, st_invokevirtual, dX7_all_13, st_istore_n, dX7_all_14, dX7_all_15, dX7_all_16, fl_X7_23, dX7_all_19, dX7_all_21, dX7_all_22, dX7_all_23, dX7_all_24, dX7_all_27, dX7_all_28, dX7_all_29, dX7_all_30, fl_X7_26, dX7_all_33, dX7_all_35, dX7_all_36, dX7_all_37, dX7_all_38, dX7_all_41, dX7_all_42, dX7_all_43, dX7_all_44, fl_X7_29, dX7_all_47, dX7_all_49, dX7_all_50, dX7_all_51, dX7_all_52, dX7_all_55, dX7_all_56, dX7_all_57, dX7_all_58, fl_X7_32, dX7_all_61, dX7_all_63, dX7_all_64, dX7_all_65, dX7_all_66, dX7_all_69, dX7_all_70, dX7_all_71, dX7_all_72, fl_X7_35, dX7_all_75, dX7_all_77, dX7_all_78, dX7_all_79, dX7_all_80, dX7_all_83, dX7_all_84, dX7_all_85, dX7_all_86, fl_X7_38, dX7_all_89, dX7_all_91, dX7_all_92, dX7_all_93, dX7_all_94, dX7_all_97, dX7_all_98, dX7_all_99, dX7_all_100, fl_X7_41, dX7_all_103, dX7_all_105, dX7_all_106, dX7_all_107, dX7_all_108, dX7_all_111, dX7_all_112, dX7_all_113, dX7_all_114, fl_X7_44, dX7_all_117, dX7_all_119, dX7_all_120, dX7_all_121, dX7_all_122, dX7_all_125, dX7_all_126, dX7_all_127, dX7_all_128, fl_X7_47, dX7_all_131, dX7_all_133, dX7_all_134, dX7_all_135, dX7_all_136, dX7_all_139, dX7_all_140, dX7_all_141, dX7_all_142, fl_X7_50, dX7_all_145, dX7_all_147, dX7_all_148, dX7_all_149, dX7_all_150, dX7_all_153, dX7_all_154, dX7_all_155, st_ifCond, dX7_all_158, dX7_all_159, dX7_all_160, dX7_all_161, st_iaload, dX7_all_162, st_putfield, fl_X7_129, dX7_all_165, dX7_all_166, dX7_all_167, dX7_all_168, dX7_all_169, st_iadd, dX7_all_170, dX7_all_171, fl_X7_126, dX7_all_174, dX7_all_175, dX7_all_176, dX7_all_177, dX7_all_178, dX7_all_179, dX7_all_180, fl_X7_245, dX7_all_183, dX7_all_184, dX7_all_185, dX7_all_186, dX7_all_187, dX7_all_188, dX7_all_189, fl_X7_248, dX7_all_192, dX7_all_193, dX7_all_194, dX7_all_195, dX7_all_196, dX7_all_197, dX7_all_198, fl_X7_7, dX7_all_201, st_goto, dX7_all_204, dX7_all_205, dX7_all_206, dX7_all_207, dX7_all_210, st_iastore, dX7_all_211, dX7_all_212, dX7_all_213, dX7_all_214, dX7_all_215, dX7_all_216, dX7_all_219, dX7_all_220, dX7_all_221, dX7_all_222, dX7_all_223, dX7_all_224, dX7_all_225, dX7_all_228, dX7_all_229, dX7_all_230, dX7_all_231, dX7_all_232, dX7_all_233, dX7_all_234, dX7_all_237, dX7_all_238, dX7_all_239, dX7_all_240, dX7_all_241, dX7_all_242, dX7_all_243, dX7_all_246, dX7_all_247, st_return_, c_X7_all_241, pX7_carries_e, fX7_carries_e, Option.toList_some, Option.toList_none, List.cons_append, List.nil_append, ofI_64, ofI_0, ofI_8, ofI_49, ofI_6, ofJ_1, ofJ_2, ofJ_3, ofI_4, hp1, crP_0, crP_64, crP_72, crP_80, crP_129, crP_135, crP_141, crP_147, crP_153, crP_159, crP_165, crA_0, crA_64, crA_72, crA_80, crA_129, crA_135, crA_141, crA_147, crA_153, crA_159, crA_165, aM_39, lM_39, sav0_f, g0, g1, g2, g3, g4, i171, j171, i172, j172, i173, j173, i174, j174, i175, j175, k1, k2, k3, k4]
      simp only [hR, savM, and_self]
      simp
  · rw [fX7_all_e, if_neg hb] at hR
    rcases id hp1 with hT | hT
    · subst hT
      have z0 : ∀ a c, a < 7 ∨ 17 < a → (lod0 38 σ).1 a c = σ.1 a c := fun a c h => lod0_o h
      have g0 : (lod0 38 σ).1 38 171 = σ.1 38 171 := z0 38 171 (by omega)
      have g1 : (lod0 38 σ).1 38 172 = σ.1 38 172 := z0 38 172 (by omega)
      have g2 : (lod0 38 σ).1 38 173 = σ.1 38 173 := z0 38 173 (by omega)
      have g3 : (lod0 38 σ).1 38 174 = σ.1 38 174 := z0 38 174 (by omega)
      have g4 : (lod0 38 σ).1 38 175 = σ.1 38 175 := z0 38 175 (by omega)
      have i171 : tn (171 : Int32) = 171 := rfl
      have j171 : (0 : Int32) ≤ 171 := by decide
      have i172 : tn (172 : Int32) = 172 := rfl
      have j172 : (0 : Int32) ≤ 172 := by decide
      have i173 : tn (173 : Int32) = 173 := rfl
      have j173 : (0 : Int32) ≤ 173 := by decide
      have i174 : tn (174 : Int32) = 174 := rfl
      have j174 : (0 : Int32) ≤ 174 := by decide
      have i175 : tn (175 : Int32) = 175 := rfl
      have j175 : (0 : Int32) ≤ 175 := by decide
      have k1 : (171 : Int32) + 1 = 172 := by decide
      have k2 : (171 : Int32) + 2 = 173 := by decide
      have k3 : (171 : Int32) + 3 = 174 := by decide
      have k4 : (171 : Int32) + 4 = 175 := by decide
      refine xgo0 171 ?_
      simp -implicitDefEqProofs only [xwp_2, xwp_0, xwp_1, xws_s, xdd_o, xld_0, xld_s, xs1_0, xs1_1, xs1_s, xs2_0, xs2_1, xs2_s, xlg_n, xlg_i, xlg_r, xlg_z, xlg_l, xf4_0, xf4_1, xf4_2, xf4_3, xgo_e, xcmp_eq, xcmp_ne, xcmp_lt, xcmp_ge, xcmp_gt, xcmp_le, xfg_0, xfg_1, xfg_2, xfg_3, xfg_4, xpop_0, xpop_s, xsw_n, xsw_c, xtb_n, xtb_c, xenp_n, xenp_i, xenp_r, xenp_z, xenp_l, xrep_0, xrep_s, Nat.reduceSub, true_and, and_true, cat_i, cat_r, Nat.reduceAdd, Nat.reduceLT, Nat.reduceLeDiff, Nat.reduceEqDiff, xnc, Int.reduceAdd, Int.reduceSub, Int.reduceNeg, Int.reduceLE, Int.reduceLT, Int.reduceToNat, ↓reduceIte, List.length_cons, List.length_nil, xlc0, xlc1, ite_10, i10, i01, i0_2, i0_3, i0_4, i0_6, i0_7, i0_8, i0_49, i0_10, or_true, true_or, or_false, false_or, not_false_eq_true, not_true_eq_false, xnt, xI_g, eq_self, xI_2, xJ_1, false_and, and_false, obM_t, rMi, vp_tn, tn_def, lgc, nI8, nI6, nI160, nI20, nI401, nI49, aM_6, aM_7, aM_8, aM_9, aM_10, aM_11, aM_12, aM_13, aM_14, aM_15, aM_16, aM_17, aM_18, aM_19, aM_20, aM_21, aM_22, aM_23, aM_24, aM_25, aM_26, aM_27, aM_28, aM_29, aM_30, aM_31, aM_38, aM_39, aM_40, aM_41, aM_42, aM_43, aM_44, aM_45, aM_46, aM_47, lM_6, lM_7, lM_8, lM_9, lM_10, lM_11, lM_12, lM_13, lM_14, lM_15, lM_16, lM_17, lM_18, lM_19, lM_20, lM_21, lM_22, lM_23, lM_24, lM_25, lM_26, lM_27, lM_28, lM_29, lM_30, lM_31, lM_38, lM_39, lM_40, lM_41, lM_42, lM_43, lM_44, lM_45, lM_46, lM_47, dX7_all_0, st_aload_n, dX7_all_1, dX7_all_2, st_getfield, fl_X7_20, dX7_all_5, st_bipush, dX7_all_7, dX7_all_8, st_iconst, dX7_all_9, st_iload_n, dX7_all_10, st_invokevirtual, dX7_all_13, st_istore_n, dX7_all_14, dX7_all_15, dX7_all_16, fl_X7_23, dX7_all_19, dX7_all_21, dX7_all_22, dX7_all_23, dX7_all_24, dX7_all_27, dX7_all_28, dX7_all_29, dX7_all_30, fl_X7_26, dX7_all_33, dX7_all_35, dX7_all_36, dX7_all_37, dX7_all_38, dX7_all_41, dX7_all_42, dX7_all_43, dX7_all_44, fl_X7_29, dX7_all_47, dX7_all_49, dX7_all_50, dX7_all_51, dX7_all_52, dX7_all_55, dX7_all_56, dX7_all_57, dX7_all_58, fl_X7_32, dX7_all_61, dX7_all_63, dX7_all_64, dX7_all_65, dX7_all_66, dX7_all_69, dX7_all_70, dX7_all_71, dX7_all_72, fl_X7_35, dX7_all_75, dX7_all_77, dX7_all_78, dX7_all_79, dX7_all_80, dX7_all_83, dX7_all_84, dX7_all_85, dX7_all_86, fl_X7_38, dX7_all_89, dX7_all_91, dX7_all_92, dX7_all_93, dX7_all_94, dX7_all_97, dX7_all_98, dX7_all_99, dX7_all_100, fl_X7_41, dX7_all_103, dX7_all_105, dX7_all_106, dX7_all_107, dX7_all_108, dX7_all_111, dX7_all_112, dX7_all_113, dX7_all_114, fl_X7_44, dX7_all_117, dX7_all_119, dX7_all_120, dX7_all_121, dX7_all_122, dX7_all_125, dX7_all_126, dX7_all_127, dX7_all_128, fl_X7_47, dX7_all_131, dX7_all_133, dX7_all_134, dX7_all_135, dX7_all_136, dX7_all_139, dX7_all_140, dX7_all_141, dX7_all_142, fl_X7_50, dX7_all_145, dX7_all_147, dX7_all_148, dX7_all_149, dX7_all_150, dX7_all_153, dX7_all_154, dX7_all_155, st_ifCond, dX7_all_158, dX7_all_159, dX7_all_160, dX7_all_161, st_iaload, dX7_all_162, st_putfield, fl_X7_129, dX7_all_165, dX7_all_166, dX7_all_167, dX7_all_168, dX7_all_169, st_iadd, dX7_all_170, dX7_all_171, fl_X7_126, dX7_all_174, dX7_all_175, dX7_all_176, dX7_all_177, dX7_all_178, dX7_all_179, dX7_all_180, fl_X7_245, dX7_all_183, dX7_all_184, dX7_all_185, dX7_all_186, dX7_all_187, dX7_all_188, dX7_all_189, fl_X7_248, dX7_all_192, dX7_all_193, dX7_all_194, dX7_all_195, dX7_all_196, dX7_all_197, dX7_all_198, fl_X7_7, dX7_all_201, st_goto, dX7_all_204, dX7_all_205, dX7_all_206, dX7_all_207, dX7_all_210, st_iastore, dX7_all_211, dX7_all_212, dX7_all_213, dX7_all_214, dX7_all_215, dX7_all_216, dX7_all_219, dX7_all_220, dX7_all_221, dX7_all_222, dX7_all_223, dX7_all_224, dX7_all_225, dX7_all_228, dX7_all_229, dX7_all_230, dX7_all_231, dX7_all_232, dX7_all_233, dX7_all_234, dX7_all_237, dX7_all_238, dX7_all_239, dX7_all_240, dX7_all_241, dX7_all_242, dX7_all_243, dX7_all_246, dX7_all_247, st_return_, c_X7_all_241, pX7_carries_e, fX7_carries_e, Option.toList_some, Option.toList_none, List.cons_append, List.nil_append, ofI_64, ofI_0, ofI_8, ofI_49, ofI_6, ofJ_1, ofJ_2, ofJ_3, ofI_4, hp1, hb, crP_0, crP_64, crP_72, crP_80, crP_129, crP_135, crP_141, crP_147, crP_153, crP_159, crP_165, crA_0, crA_64, crA_72, crA_80, crA_129, crA_135, crA_141, crA_147, crA_153, crA_159, crA_165, aM_38, lM_38, lod0_f, g0, g1, g2, g3, g4, i171, j171, i172, j172, i173, j173, i174, j174, i175, j175, k1, k2, k3, k4]
      simp only [hR, lodM, and_self]
      simp
    · subst hT
      have z0 : ∀ a c, a < 7 ∨ 17 < a → (lod0 39 σ).1 a c = σ.1 a c := fun a c h => lod0_o h
      have g0 : (lod0 39 σ).1 39 171 = σ.1 39 171 := z0 39 171 (by omega)
      have g1 : (lod0 39 σ).1 39 172 = σ.1 39 172 := z0 39 172 (by omega)
      have g2 : (lod0 39 σ).1 39 173 = σ.1 39 173 := z0 39 173 (by omega)
      have g3 : (lod0 39 σ).1 39 174 = σ.1 39 174 := z0 39 174 (by omega)
      have g4 : (lod0 39 σ).1 39 175 = σ.1 39 175 := z0 39 175 (by omega)
      have i171 : tn (171 : Int32) = 171 := rfl
      have j171 : (0 : Int32) ≤ 171 := by decide
      have i172 : tn (172 : Int32) = 172 := rfl
      have j172 : (0 : Int32) ≤ 172 := by decide
      have i173 : tn (173 : Int32) = 173 := rfl
      have j173 : (0 : Int32) ≤ 173 := by decide
      have i174 : tn (174 : Int32) = 174 := rfl
      have j174 : (0 : Int32) ≤ 174 := by decide
      have i175 : tn (175 : Int32) = 175 := rfl
      have j175 : (0 : Int32) ≤ 175 := by decide
      have k1 : (171 : Int32) + 1 = 172 := by decide
      have k2 : (171 : Int32) + 2 = 173 := by decide
      have k3 : (171 : Int32) + 3 = 174 := by decide
      have k4 : (171 : Int32) + 4 = 175 := by decide
      refine xgo0 171 ?_
      simp -implicitDefEqProofs only [xwp_2, xwp_0, xwp_1, xws_s, xdd_o, xld_0, xld_s, xs1_0, xs1_1, xs1_s, xs2_0, xs2_1, xs2_s, xlg_n, xlg_i, xlg_r, xlg_z, xlg_l, xf4_0, xf4_1, xf4_2, xf4_3, xgo_e, xcmp_eq, xcmp_ne, xcmp_lt, xcmp_ge, xcmp_gt, xcmp_le, xfg_0, xfg_1, xfg_2, xfg_3, xfg_4, xpop_0, xpop_s, xsw_n, xsw_c, xtb_n, xtb_c, xenp_n, xenp_i, xenp_r, xenp_z, xenp_l, xrep_0, xrep_s, Nat.reduceSub, true_and, and_true, cat_i, cat_r, Nat.reduceAdd, Nat.reduceLT, Nat.reduceLeDiff, Nat.reduceEqDiff, xnc, Int.reduceAdd, Int.reduceSub, Int.reduceNeg, Int.reduceLE, Int.reduceLT, Int.reduceToNat, ↓reduceIte, List.length_cons, List.length_nil, xlc0, xlc1, ite_10, i10, i01, i0_2, i0_3, i0_4, i0_6, i0_7, i0_8, i0_49, i0_10, or_true, true_or, or_false, false_or, not_false_eq_true, not_true_eq_false, xnt, xI_g, eq_self, xI_2, xJ_1, false_and, and_false, obM_t, rMi, vp_tn, tn_def, lgc, nI8, nI6, nI160, nI20, nI401, nI49, aM_6, aM_7, aM_8, aM_9, aM_10, aM_11, aM_12, aM_13, aM_14, aM_15, aM_16, aM_17, aM_18, aM_19, aM_20, aM_21, aM_22, aM_23, aM_24, aM_25, aM_26, aM_27, aM_28, aM_29, aM_30, aM_31, aM_38, aM_39, aM_40, aM_41, aM_42, aM_43, aM_44, aM_45, aM_46, aM_47, lM_6, lM_7, lM_8, lM_9, lM_10, lM_11, lM_12, lM_13, lM_14, lM_15, lM_16, lM_17, lM_18, lM_19, lM_20, lM_21, lM_22, lM_23, lM_24, lM_25, lM_26, lM_27, lM_28, lM_29, lM_30, lM_31, lM_38, lM_39, lM_40, lM_41, lM_42, lM_43, lM_44, lM_45, lM_46, lM_47, dX7_all_0, st_aload_n, dX7_all_1, dX7_all_2, st_getfield, fl_X7_20, dX7_all_5, st_bipush, dX7_all_7, dX7_all_8, st_iconst, dX7_all_9, st_iload_n, dX7_all_10, st_invokevirtual, dX7_all_13, st_istore_n, dX7_all_14, dX7_all_15, dX7_all_16, fl_X7_23, dX7_all_19, dX7_all_21, dX7_all_22, dX7_all_23, dX7_all_24, dX7_all_27, dX7_all_28, dX7_all_29, dX7_all_30, fl_X7_26, dX7_all_33, dX7_all_35, dX7_all_36, dX7_all_37, dX7_all_38, dX7_all_41, dX7_all_42, dX7_all_43, dX7_all_44, fl_X7_29, dX7_all_47, dX7_all_49, dX7_all_50, dX7_all_51, dX7_all_52, dX7_all_55, dX7_all_56, dX7_all_57, dX7_all_58, fl_X7_32, dX7_all_61, dX7_all_63, dX7_all_64, dX7_all_65, dX7_all_66, dX7_all_69, dX7_all_70, dX7_all_71, dX7_all_72, fl_X7_35, dX7_all_75, dX7_all_77, dX7_all_78, dX7_all_79, dX7_all_80, dX7_all_83, dX7_all_84, dX7_all_85, dX7_all_86, fl_X7_38, dX7_all_89, dX7_all_91, dX7_all_92, dX7_all_93, dX7_all_94, dX7_all_97, dX7_all_98, dX7_all_99, dX7_all_100, fl_X7_41, dX7_all_103, dX7_all_105, dX7_all_106, dX7_all_107, dX7_all_108, dX7_all_111, dX7_all_112, dX7_all_113, dX7_all_114, fl_X7_44, dX7_all_117, dX7_all_119, dX7_all_120, dX7_all_121, dX7_all_122, dX7_all_125, dX7_all_126, dX7_all_127, dX7_all_128, fl_X7_47, dX7_all_131, dX7_all_133, dX7_all_134, dX7_all_135, dX7_all_136, dX7_all_139, dX7_all_140, dX7_all_141, dX7_all_142, fl_X7_50, dX7_all_145, dX7_all_147, dX7_all_148, dX7_all_149, dX7_all_150, dX7_all_153, dX7_all_154, dX7_all_155, st_ifCond, dX7_all_158, dX7_all_159, dX7_all_160, dX7_all_161, st_iaload, dX7_all_162, st_putfield, fl_X7_129, dX7_all_165, dX7_all_166, dX7_all_167, dX7_all_168, dX7_all_169, st_iadd, dX7_all_170, dX7_all_171, fl_X7_126, dX7_all_174, dX7_all_175, dX7_all_176, dX7_all_177, dX7_all_178, dX7_all_179, dX7_all_180, fl_X7_245, dX7_all_183, dX7_all_184, dX7_all_185, dX7_all_186, dX7_all_187, dX7_all_188, dX7_all_189, fl_X7_248, dX7_all_192, dX7_all_193, dX7_all_194, dX7_all_195, dX7_all_196, dX7_all_197, dX7_all_198, fl_X7_7, dX7_all_201, st_goto, dX7_all_204, dX7_all_205, dX7_all_206, dX7_all_207, dX7_all_210, st_iastore, dX7_all_211, dX7_all_212, dX7_all_213, dX7_all_214, dX7_all_215, dX7_all_216, dX7_all_219, dX7_all_220, dX7_all_221, dX7_all_222, dX7_all_223, dX7_all_224, dX7_all_225, dX7_all_228, dX7_all_229, dX7_all_230, dX7_all_231, dX7_all_232, dX7_all_233, dX7_all_234, dX7_all_237, dX7_all_238, dX7_all_239, dX7_all_240, dX7_all_241, dX7_all_242, dX7_all_243, dX7_all_246, dX7_all_247, st_return_, c_X7_all_241, pX7_carries_e, fX7_carries_e, Option.toList_some, Option.toList_none, List.cons_append, List.nil_append, ofI_64, ofI_0, ofI_8, ofI_49, ofI_6, ofJ_1, ofJ_2, ofJ_3, ofI_4, hp1, hb, crP_0, crP_64, crP_72, crP_80, crP_129, crP_135, crP_141, crP_147, crP_153, crP_159, crP_165, crA_0, crA_64, crA_72, crA_80, crA_129, crA_135, crA_141, crA_147, crA_153, crA_159, crA_165, aM_39, lM_39, lod0_f, g0, g1, g2, g3, g4, i171, j171, i172, j172, i173, j173, i174, j174, i175, j175, k1, k2, k3, k4]
      simp only [hR, lodM, and_self]
      simp
theorem rX7_all : ∀ as σ, pX7_all as σ → ∃ K as', as = .ref K :: as' ∧ xob WM K 7 := by
  rintro as σ ⟨T, b, rfl, hpre⟩
  exact ⟨_, _, rfl, by first | exact hpre | exact hpre.1 | exact obT hpre | exact obT hpre.1 | exact obS hpre | exact obS hpre.1 | exact obM | exact ob6 | exact ob2 | exact ob0⟩
theorem savM_o {T a c : Nat} {σ : xS} (h : a ≠ T) : (savM T σ).1 a c = σ.1 a c := by
  unfold savM
  rw [xI_n (by omega), xI_n (by omega), xI_n (by omega), xI_n (by omega), xI_n (by omega), sav0_o h]
theorem lodM_o {T a c : Nat} {σ : xS} (h : (a < 7 ∧ (a = 0 → 4 < c)) ∨ 17 < a) : (lodM T σ).1 a c = σ.1 a c := by
  unfold lodM
  rw [xI_n (by omega), xI_n (by omega), xI_n (by omega), xI_n (by omega), xI_n (by omega), lod0_o (by omega)]
def imgM (σ : xS) : xS := savM 39 (xI σ 0 49 1)
def rsM : Nat → xS → xS
  | 0, σ => σ
  | i + 1, σ => if (rsM i σ).1 23 i = 2 ∧ ¬ (rsM i σ).1 26 i < σ.1 0 1 then xI (rsM i σ) 23 i 0 else rsM i σ
theorem rsM_s {i : Nat} {σ : xS} : rsM (i + 1) σ = if (rsM i σ).1 23 i = 2 ∧ ¬ (rsM i σ).1 26 i < σ.1 0 1 then xI (rsM i σ) 23 i 0 else rsM i σ := rfl
theorem rsM_0 {σ : xS} : rsM 0 σ = σ := rfl
theorem rsM_k {σ : xS} {b : Nat} : ∀ {i : Nat}, (rsM i σ).1 0 b = σ.1 0 b
  | 0 => rfl
  | i + 1 => by
    rw [rsM_s]
    split
    · rw [xI_n (by omega)]; exact rsM_k
    · exact rsM_k
def resM (σ : xS) : Int32 × xS := if σ.1 0 49 = 0 then noM σ (-6) else ((lodM 39 σ).1 0 1, rsM 8 (lodM 39 σ))
theorem T39 : ((39 : Nat) = 38 ∨ (39 : Nat) = 39) = True := eq_true (Or.inr rfl)
theorem T38 : ((38 : Nat) = 38 ∨ (38 : Nat) = 39) = True := eq_true (Or.inl rfl)
theorem i1_0 : ((1 : Int32) = 0) = False := eq_false (by decide)
def pX7_image (as : List Value) (σ : xS) : Prop := as = [.ref 0] ∧ (True)
def fX7_image (as : List Value) (σ : xS) : Option Value × xS := match as with
  | [.ref 0] => (some (.int (σ.1 0 1)), imgM σ)
  | _ => (none, σ)
theorem pX7_image_e {σ : xS} : pX7_image [.ref 0] σ = (True) := propext ⟨fun h => h.2, fun h => ⟨rfl, h⟩⟩
theorem fX7_image_e  {σ : xS} : fX7_image [.ref 0] σ = (some (.int (σ.1 0 1)), imgM σ) := rfl
def calX7_image : List (Nat × xCall) := [(251, (false, 3, pX7_all, fX7_all))]
theorem c_X7_image_251 : xlk calX7_image 251 = some (false, 3, pX7_all, fX7_all) := rfl
set_option maxHeartbeats 1000000 in
set_option maxRecDepth 100000 in
theorem mX7_image : xMet WM yX7_image cX7_image 1 (some .int) 3 pX7_image fX7_image := by
  refine xMet_of (fld := xlk fldX7) (cal := xlk calX7_image) (ks := xlk []) (gs := xlk []) (ro := fun _ => none) 0 (by decide) WM_nd rfl fldX7_ok xKs_nil xGs_nil (Or.inr rfl) (xcal_cons (xCk_V mX7_all 7 (by decide) (by decide) (by decide) rfl (fun as σ h _ => rX7_all as σ h) w_X7_251 ⟨by decide, by decide, by decide +kernel⟩) xcal_nil) ?_ ?_
  · rintro av σ ⟨rfl, hpre⟩
    exact Nat.le_of_ble_eq_true rfl
  rintro av σ ⟨rfl, hp1⟩ Rt hR
  have z1 : (imgM σ).1 0 1 = σ.1 0 1 := by rw [imgM, savM_o (by omega), xI_n (by omega)]
  have f1 : savM 39 (xI σ 0 49 1) = imgM σ := rfl
  refine xgo0 13 ?_
  simp -implicitDefEqProofs only [xwp_2, xwp_0, xwp_1, xws_s, xdd_o, xld_0, xld_s, xs1_0, xs1_1, xs1_s, xs2_0, xs2_1, xs2_s, xlg_n, xlg_i, xlg_r, xlg_z, xlg_l, xf4_0, xf4_1, xf4_2, xf4_3, xgo_e, xcmp_eq, xcmp_ne, xcmp_lt, xcmp_ge, xcmp_gt, xcmp_le, xfg_0, xfg_1, xfg_2, xfg_3, xfg_4, xpop_0, xpop_s, xsw_n, xsw_c, xtb_n, xtb_c, xenp_n, xenp_i, xenp_r, xenp_z, xenp_l, xrep_0, xrep_s, Nat.reduceSub, true_and, and_true, cat_i, cat_r, Nat.reduceAdd, Nat.reduceLT, Nat.reduceLeDiff, Nat.reduceEqDiff, xnc, Int.reduceAdd, Int.reduceSub, Int.reduceNeg, Int.reduceLE, Int.reduceLT, Int.reduceToNat, ↓reduceIte, List.length_cons, List.length_nil, xlc0, xlc1, ite_10, i10, i01, i0_2, i0_3, i0_4, i0_6, i0_7, i0_8, i0_49, i0_10, or_true, true_or, or_false, false_or, not_false_eq_true, not_true_eq_false, xnt, xI_g, eq_self, xI_2, xJ_1, false_and, and_false, obM_t, rMi, vp_tn, tn_def, lgc, nI8, nI6, nI160, nI20, nI401, nI49, aM_6, aM_7, aM_8, aM_9, aM_10, aM_11, aM_12, aM_13, aM_14, aM_15, aM_16, aM_17, aM_18, aM_19, aM_20, aM_21, aM_22, aM_23, aM_24, aM_25, aM_26, aM_27, aM_28, aM_29, aM_30, aM_31, aM_38, aM_39, aM_40, aM_41, aM_42, aM_43, aM_44, aM_45, aM_46, aM_47, lM_6, lM_7, lM_8, lM_9, lM_10, lM_11, lM_12, lM_13, lM_14, lM_15, lM_16, lM_17, lM_18, lM_19, lM_20, lM_21, lM_22, lM_23, lM_24, lM_25, lM_26, lM_27, lM_28, lM_29, lM_30, lM_31, lM_38, lM_39, lM_40, lM_41, lM_42, lM_43, lM_44, lM_45, lM_46, lM_47, dX7_image_0, st_aload_n, dX7_image_1, st_iconst, dX7_image_2, st_putfield, fl_X7_345, dX7_image_5, dX7_image_6, dX7_image_7, st_getfield, fl_X7_99, dX7_image_10, dX7_image_11, st_invokevirtual, dX7_image_14, dX7_image_15, fl_X7_126, dX7_image_18, st_ireturn, c_X7_image_251, pX7_all_e, fX7_all_e, Option.toList_some, Option.toList_none, List.cons_append, List.nil_append, ofJ_1, ofI_0, hp1, T39, i1_0, f1, z1]
  simp only [hR, fX7_image_e, and_self]
theorem rX7_image : ∀ as σ, pX7_image as σ → ∃ K as', as = .ref K :: as' ∧ xob WM K 7 := by
  rintro as σ ⟨rfl, hpre⟩
  exact ⟨_, _, rfl, by first | exact hpre | exact hpre.1 | exact obT hpre | exact obT hpre.1 | exact obS hpre | exact obS hpre.1 | exact obM | exact ob6 | exact ob2 | exact ob0⟩
def pX7_restore (as : List Value) (σ : xS) : Prop := as = [.ref 0] ∧ (True)
def fX7_restore (as : List Value) (σ : xS) : Option Value × xS := match as with
  | [.ref 0] => (some (.int (resM σ).1), (resM σ).2)
  | _ => (none, σ)
theorem pX7_restore_e {σ : xS} : pX7_restore [.ref 0] σ = (True) := propext ⟨fun h => h.2, fun h => ⟨rfl, h⟩⟩
theorem fX7_restore_e  {σ : xS} : fX7_restore [.ref 0] σ = (some (.int (resM σ).1), (resM σ).2) := rfl
def calX7_restore : List (Nat × xCall) := [(136, (false, 2, pX7_no, fX7_no)), (251, (false, 3, pX7_all, fX7_all))]
theorem c_X7_restore_136 : xlk calX7_restore 136 = some (false, 2, pX7_no, fX7_no) := rfl
theorem c_X7_restore_251 : xlk calX7_restore 251 = some (false, 3, pX7_all, fX7_all) := rfl
set_option maxHeartbeats 1000000 in
set_option maxRecDepth 100000 in
theorem mX7_restore : xMet WM yX7_restore cX7_restore 2 (some .int) 3 pX7_restore fX7_restore := by
  refine xMet_of (fld := xlk fldX7) (cal := xlk calX7_restore) (ks := xlk []) (gs := xlk []) (ro := fun _ => none) 0 (by decide) WM_nd rfl fldX7_ok xKs_nil xGs_nil (Or.inr rfl) (xcal_cons (xCk_V mX7_no 7 (by decide) (by decide) (by decide) rfl (fun as σ h _ => rX7_no as σ h) w_X7_136 ⟨by decide, by decide, by decide +kernel⟩) (xcal_cons (xCk_V mX7_all 7 (by decide) (by decide) (by decide) rfl (fun as σ h _ => rX7_all as σ h) w_X7_251 ⟨by decide, by decide, by decide +kernel⟩) xcal_nil)) ?_ ?_
  · rintro av σ ⟨rfl, hpre⟩
    exact Nat.le_of_ble_eq_true rfl
  rintro av σ ⟨rfl, hp1⟩ Rt hR
  have hR2 := hR2_g (Rt := Rt) (F := resM σ) (fun r s' => by rw [hR, fX7_restore_e])
  clear hR
  by_cases hz : σ.1 0 49 = 0
  · refine xtoN [(23, fun _ _ _ => False)] (fun q hq L st s hp => by simp only [List.mem_singleton] at hq; subst hq; exact hp.elim) 14 ?_
    simp -implicitDefEqProofs only [xwp_2, xwp_0, xwp_1, xws_s, xdd_o, xld_0, xld_s, xs1_0, xs1_1, xs1_s, xs2_0, xs2_1, xs2_s, xlg_n, xlg_i, xlg_r, xlg_z, xlg_l, xf4_0, xf4_1, xf4_2, xf4_3, xgo_e, xcmp_eq, xcmp_ne, xcmp_lt, xcmp_ge, xcmp_gt, xcmp_le, xfg_0, xfg_1, xfg_2, xfg_3, xfg_4, xpop_0, xpop_s, xsw_n, xsw_c, xtb_n, xtb_c, xenp_n, xenp_i, xenp_r, xenp_z, xenp_l, xrep_0, xrep_s, Nat.reduceSub, true_and, and_true, cat_i, cat_r, Nat.reduceAdd, Nat.reduceLT, Nat.reduceLeDiff, Nat.reduceEqDiff, xnc, Int.reduceAdd, Int.reduceSub, Int.reduceNeg, Int.reduceLE, Int.reduceLT, Int.reduceToNat, ↓reduceIte, List.length_cons, List.length_nil, xlc0, xlc1, ite_10, i10, i01, i0_2, i0_3, i0_4, i0_6, i0_7, i0_8, i0_49, i0_10, or_true, true_or, or_false, false_or, not_false_eq_true, not_true_eq_false, xnt, xI_g, eq_self, xI_2, xJ_1, false_and, and_false, obM_t, rMi, vp_tn, tn_def, lgc, nI8, nI6, nI160, nI20, nI401, nI49, aM_6, aM_7, aM_8, aM_9, aM_10, aM_11, aM_12, aM_13, aM_14, aM_15, aM_16, aM_17, aM_18, aM_19, aM_20, aM_21, aM_22, aM_23, aM_24, aM_25, aM_26, aM_27, aM_28, aM_29, aM_30, aM_31, aM_38, aM_39, aM_40, aM_41, aM_42, aM_43, aM_44, aM_45, aM_46, aM_47, lM_6, lM_7, lM_8, lM_9, lM_10, lM_11, lM_12, lM_13, lM_14, lM_15, lM_16, lM_17, lM_18, lM_19, lM_20, lM_21, lM_22, lM_23, lM_24, lM_25, lM_26, lM_27, lM_28, lM_29, lM_30, lM_31, lM_38, lM_39, lM_40, lM_41, lM_42, lM_43, lM_44, lM_45, lM_46, lM_47, dX7_restore_0, st_aload_n, dX7_restore_1, st_getfield, fl_X7_345, dX7_restore_4, st_ifCond, dX7_restore_7, dX7_restore_8, st_bipush, dX7_restore_10, st_invokevirtual, dX7_restore_13, st_ireturn, dX7_restore_14, dX7_restore_15, dX7_restore_16, fl_X7_99, dX7_restore_19, st_iconst, dX7_restore_20, dX7_restore_23, dX7_restore_24, st_istore_n, dX7_restore_25, st_iload_n, dX7_restore_26, dX7_restore_28, st_if_icmp, dX7_restore_31, dX7_restore_32, fl_X7_68, dX7_restore_35, dX7_restore_36, st_iaload, dX7_restore_37, dX7_restore_38, dX7_restore_41, dX7_restore_42, fl_X7_77, dX7_restore_45, dX7_restore_46, dX7_restore_47, dX7_restore_48, fl_X7_126, dX7_restore_51, dX7_restore_54, dX7_restore_55, dX7_restore_58, dX7_restore_59, dX7_restore_60, st_iastore, dX7_restore_61, st_iinc, dX7_restore_64, st_goto, dX7_restore_67, dX7_restore_68, dX7_restore_71, c_X7_restore_136, pX7_no_e, fX7_no_e, Option.toList_some, Option.toList_none, List.cons_append, List.nil_append, c_X7_restore_251, pX7_all_e, fX7_all_e, ofI_m6, ofJ_1, ofI_0, ofI_8, ofJ_2, hp1, xwp_L, xlk_c, xlk_n, xcu_s, xcu_n, hz, T39, i1_0, nbP_1, nbP_2, nbP_3, nbP_4, nbP_5, nbP_6, nbP_7]
    simp [hR2, resM, noM, hz]
  · have g0 : resM σ = ((lodM 39 σ).1 0 1, rsM 8 (lodM 39 σ)) := by rw [resM, if_neg hz]
    rw [g0] at hR2
    clear g0
    generalize hT : lodM 39 σ = T at *
    have h1 : ∀ i, i ≤ 8 → xGo WM 2 (xlk fldX7) (xlk calX7_restore) (xlk []) (xlk []) (fun _ => none) 0 cX7_restore Rt 25 [some (.ref 0), some (.int (nI i))] [] (rsM i T) := by
      refine xcount (8) (fun i => xGo WM 2 (xlk fldX7) (xlk calX7_restore) (xlk []) (xlk []) (fun _ => none) 0 cX7_restore Rt 25 [some (.ref 0), some (.int (nI i))] [] (rsM i T)) (fun i hi ih => ?_)
      have hc : (8 : Int32) ≤ nI i ↔ 8 ≤ i := nI_leI (a := 8) (by omega) (by omega)
      have e0 : 0 ≤ nI i := nI_pos' (by omega)
      have e1 : nI i + 1 = nI (i + 1) := nI_1 i
      have e2 : tn (nI i) = i := tn_nI (by omega)
      refine xtoCs [(25, xPc (i < 8) [some (.ref 0), some (.int (nI (i + 1)))] (rsM (i + 1) T))] (xcs_cons (ih) xcs_nil) 34 (fun cf hcf => ?_)
      have k25 : cf 25 = some (xPc (i < 8) [some (.ref 0), some (.int (nI (i + 1)))] (rsM (i + 1) T)) := (hcf 25).trans rfl
      have kn : ∀ pc, ¬ pc = 25 → cf pc = none := fun pc h0 => by rw [hcf, xlk_c, if_neg h0, xlk_n]
      clear hcf
      simp (config := {maxSteps := 4000000, implicitDefEqProofs := false}) only [xwp_2, xwp_0, xwp_1, xws_s, xdd_o, xld_0, xld_s, xs1_0, xs1_1, xs1_s, xs2_0, xs2_1, xs2_s, xlg_n, xlg_i, xlg_r, xlg_z, xlg_l, xf4_0, xf4_1, xf4_2, xf4_3, xgo_e, xcmp_eq, xcmp_ne, xcmp_lt, xcmp_ge, xcmp_gt, xcmp_le, xfg_0, xfg_1, xfg_2, xfg_3, xfg_4, xpop_0, xpop_s, xsw_n, xsw_c, xtb_n, xtb_c, xenp_n, xenp_i, xenp_r, xenp_z, xenp_l, xrep_0, xrep_s, Nat.reduceSub, true_and, and_true, cat_i, cat_r, Nat.reduceAdd, Nat.reduceLT, Nat.reduceLeDiff, Nat.reduceEqDiff, xnc, Int.reduceAdd, Int.reduceSub, Int.reduceNeg, Int.reduceLE, Int.reduceLT, Int.reduceToNat, ↓reduceIte, List.length_cons, List.length_nil, xlc0, xlc1, ite_10, i10, i01, i0_2, i0_3, i0_4, i0_6, i0_7, i0_8, i0_49, i0_10, or_true, true_or, or_false, false_or, not_false_eq_true, not_true_eq_false, xnt, xI_g, eq_self, xI_2, xJ_1, false_and, and_false, obM_t, rMi, vp_tn, tn_def, lgc, nI8, nI6, nI160, nI20, nI401, nI49, aM_6, aM_7, aM_8, aM_9, aM_10, aM_11, aM_12, aM_13, aM_14, aM_15, aM_16, aM_17, aM_18, aM_19, aM_20, aM_21, aM_22, aM_23, aM_24, aM_25, aM_26, aM_27, aM_28, aM_29, aM_30, aM_31, aM_38, aM_39, aM_40, aM_41, aM_42, aM_43, aM_44, aM_45, aM_46, aM_47, lM_6, lM_7, lM_8, lM_9, lM_10, lM_11, lM_12, lM_13, lM_14, lM_15, lM_16, lM_17, lM_18, lM_19, lM_20, lM_21, lM_22, lM_23, lM_24, lM_25, lM_26, lM_27, lM_28, lM_29, lM_30, lM_31, lM_38, lM_39, lM_40, lM_41, lM_42, lM_43, lM_44, lM_45, lM_46, lM_47, dX7_restore_0, st_aload_n, dX7_restore_1, st_getfield, fl_X7_345, dX7_restore_4, st_ifCond, dX7_restore_7, dX7_restore_8, st_bipush, dX7_restore_10, st_invokevirtual, dX7_restore_13, st_ireturn, dX7_restore_14, dX7_restore_15, dX7_restore_16, fl_X7_99, dX7_restore_19, st_iconst, dX7_restore_20, dX7_restore_23, dX7_restore_24, st_istore_n, dX7_restore_25, st_iload_n, dX7_restore_26, dX7_restore_28, st_if_icmp, dX7_restore_31, dX7_restore_32, fl_X7_68, dX7_restore_35, dX7_restore_36, st_iaload, dX7_restore_37, dX7_restore_38, dX7_restore_41, dX7_restore_42, fl_X7_77, dX7_restore_45, dX7_restore_46, dX7_restore_47, dX7_restore_48, fl_X7_126, dX7_restore_51, dX7_restore_54, dX7_restore_55, dX7_restore_58, dX7_restore_59, dX7_restore_60, st_iastore, dX7_restore_61, st_iinc, dX7_restore_64, st_goto, dX7_restore_67, dX7_restore_68, dX7_restore_71, c_X7_restore_136, pX7_no_e, fX7_no_e, Option.toList_some, Option.toList_none, List.cons_append, List.nil_append, c_X7_restore_251, pX7_all_e, fX7_all_e, ofI_m6, ofJ_1, ofI_0, ofI_8, ofJ_2, hp1, xwp_s, xcu_s, xcu_n, xPc_e, xsub_0, xsub_n, xsub_s, k25, kn, hc, e0, e1, e2, rsM_k]
      have fin : 8 ≤ i → rsM i T = rsM 8 T := fun h => by rw [show i = 8 by omega]
      have h8 : ¬ 8 ≤ i → i < 8 := fun h => by omega
      rw [rsM_s]
      simp only [hR2]
      clear hR2 hc ih hT
      generalize rsM 8 T = Z at *
      generalize rsM i T = U at *
      grind (splits := 40)
    refine xtoC [(25, xPc (True) [some (.ref 0), some (.int (nI 0))] (rsM 0 T))] (xcs_cons (fun _ => h1 0 (Nat.zero_le _)) xcs_nil) 16 (fun cf hcf => ?_)
    have k25 : cf 25 = some (xPc (True) [some (.ref 0), some (.int (nI 0))] (rsM 0 T)) := (hcf 25).trans rfl
    have kn : ∀ pc, ¬ pc = 25 → cf pc = none := fun pc h0 => by rw [hcf, xlk_c, if_neg h0, xlk_n]
    clear hcf
    simp (config := {maxSteps := 4000000, implicitDefEqProofs := false}) only [xwp_2, xwp_0, xwp_1, xws_s, xdd_o, xld_0, xld_s, xs1_0, xs1_1, xs1_s, xs2_0, xs2_1, xs2_s, xlg_n, xlg_i, xlg_r, xlg_z, xlg_l, xf4_0, xf4_1, xf4_2, xf4_3, xgo_e, xcmp_eq, xcmp_ne, xcmp_lt, xcmp_ge, xcmp_gt, xcmp_le, xfg_0, xfg_1, xfg_2, xfg_3, xfg_4, xpop_0, xpop_s, xsw_n, xsw_c, xtb_n, xtb_c, xenp_n, xenp_i, xenp_r, xenp_z, xenp_l, xrep_0, xrep_s, Nat.reduceSub, true_and, and_true, cat_i, cat_r, Nat.reduceAdd, Nat.reduceLT, Nat.reduceLeDiff, Nat.reduceEqDiff, xnc, Int.reduceAdd, Int.reduceSub, Int.reduceNeg, Int.reduceLE, Int.reduceLT, Int.reduceToNat, ↓reduceIte, List.length_cons, List.length_nil, xlc0, xlc1, ite_10, i10, i01, i0_2, i0_3, i0_4, i0_6, i0_7, i0_8, i0_49, i0_10, or_true, true_or, or_false, false_or, not_false_eq_true, not_true_eq_false, xnt, xI_g, eq_self, xI_2, xJ_1, false_and, and_false, obM_t, rMi, vp_tn, tn_def, lgc, nI8, nI6, nI160, nI20, nI401, nI49, aM_6, aM_7, aM_8, aM_9, aM_10, aM_11, aM_12, aM_13, aM_14, aM_15, aM_16, aM_17, aM_18, aM_19, aM_20, aM_21, aM_22, aM_23, aM_24, aM_25, aM_26, aM_27, aM_28, aM_29, aM_30, aM_31, aM_38, aM_39, aM_40, aM_41, aM_42, aM_43, aM_44, aM_45, aM_46, aM_47, lM_6, lM_7, lM_8, lM_9, lM_10, lM_11, lM_12, lM_13, lM_14, lM_15, lM_16, lM_17, lM_18, lM_19, lM_20, lM_21, lM_22, lM_23, lM_24, lM_25, lM_26, lM_27, lM_28, lM_29, lM_30, lM_31, lM_38, lM_39, lM_40, lM_41, lM_42, lM_43, lM_44, lM_45, lM_46, lM_47, dX7_restore_0, st_aload_n, dX7_restore_1, st_getfield, fl_X7_345, dX7_restore_4, st_ifCond, dX7_restore_7, dX7_restore_8, st_bipush, dX7_restore_10, st_invokevirtual, dX7_restore_13, st_ireturn, dX7_restore_14, dX7_restore_15, dX7_restore_16, fl_X7_99, dX7_restore_19, st_iconst, dX7_restore_20, dX7_restore_23, dX7_restore_24, st_istore_n, dX7_restore_25, st_iload_n, dX7_restore_26, dX7_restore_28, st_if_icmp, dX7_restore_31, dX7_restore_32, fl_X7_68, dX7_restore_35, dX7_restore_36, st_iaload, dX7_restore_37, dX7_restore_38, dX7_restore_41, dX7_restore_42, fl_X7_77, dX7_restore_45, dX7_restore_46, dX7_restore_47, dX7_restore_48, fl_X7_126, dX7_restore_51, dX7_restore_54, dX7_restore_55, dX7_restore_58, dX7_restore_59, dX7_restore_60, st_iastore, dX7_restore_61, st_iinc, dX7_restore_64, st_goto, dX7_restore_67, dX7_restore_68, dX7_restore_71, c_X7_restore_136, pX7_no_e, fX7_no_e, Option.toList_some, Option.toList_none, List.cons_append, List.nil_append, c_X7_restore_251, pX7_all_e, fX7_all_e, ofI_m6, ofJ_1, ofI_0, ofI_8, ofJ_2, hp1, xwp_s, xcu_s, xcu_n, xPc_e, xsub_0, xsub_n, xsub_s, k25, kn, nI_00, rsM_0, hT, hz, T39, i1_0]
    try simp
theorem rX7_restore : ∀ as σ, pX7_restore as σ → ∃ K as', as = .ref K :: as' ∧ xob WM K 7 := by
  rintro as σ ⟨rfl, hpre⟩
  exact ⟨_, _, rfl, by first | exact hpre | exact hpre.1 | exact obT hpre | exact obT hpre.1 | exact obS hpre | exact obS hpre.1 | exact obM | exact ob6 | exact ob2 | exact ob0⟩
