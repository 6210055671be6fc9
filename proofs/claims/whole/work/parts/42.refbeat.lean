section XTC
variable {w : xD} {nL : Nat} {fld : Nat → Option (Nat × Nat × Nat)} {cal : Nat → Option xCall} {ks : Nat → Option Value} {gs : Nat → Option Nat} {ro : Nat → Option (Nat × (Nat → Int32))} {rb : Nat} {cc : ByteArray} {Rt : Option Value → xS → Prop}
theorem xtoC (l : List (Nat × (xL → List Value → xS → Prop))) (hl : xcs w nL fld cal ks gs ro rb cc Rt l) (n : Nat) {pc : Nat} {L : xL} {st : List Value} {σ : xS} (h : ∀ cf : Nat → Option (xL → List Value → xS → Prop), (∀ pc, cf pc = xlk l pc) → xwp w nL fld cal ks gs ro rb cc cf Rt n pc L st σ) : xGo w nL fld cal ks gs ro rb cc Rt pc L st σ := xtoN l hl n (h (xlk l) (fun _ => rfl))
theorem xtoCs (l : List (Nat × (xL → List Value → xS → Prop))) (hl : xcs w nL fld cal ks gs ro rb cc Rt l) (n : Nat) {pc : Nat} {L : xL} {st : List Value} {σ : xS} (h : ∀ cf : Nat → Option (xL → List Value → xS → Prop), (∀ pc, cf pc = xlk l pc) → xws w nL fld cal ks gs ro rb cc cf Rt n pc L st σ) : xGo w nL fld cal ks gs ro rb cc Rt pc L st σ := xtoS l hl n (h (xlk l) (fun _ => rfl))
end XTC
def pX7_isAlike (as : List Value) (σ : xS) : Prop := as = [.ref 0] ∧ ((0 ≤ σ.1 0 1) ∧ (σ.1 0 1 ≤ 6))
def fX7_isAlike (as : List Value) (σ : xS) : Option Value × xS := match as with
  | [.ref 0] => (some (.int (if akM σ = false then 1 else 0)), σ)
  | _ => (none, σ)
theorem pX7_isAlike_e {σ : xS} : pX7_isAlike [.ref 0] σ = ((0 ≤ σ.1 0 1) ∧ (σ.1 0 1 ≤ 6)) := propext ⟨fun h => h.2, fun h => ⟨rfl, h⟩⟩
theorem fX7_isAlike_e  {σ : xS} : fX7_isAlike [.ref 0] σ = (some (.int (if akM σ = false then 1 else 0)), σ) := rfl
def calX7_isAlike : List (Nat × xCall) := []
set_option maxHeartbeats 4000000 in
set_option maxRecDepth 100000 in
theorem mX7_isAlike : xMet WM yX7_isAlike cX7_isAlike 2 (some .boolean) 1 pX7_isAlike fX7_isAlike := by
  refine xMet_of (fld := xlk fldX7) (cal := xlk calX7_isAlike) (ks := xlk []) (gs := xlk []) (ro := fun _ => none) 1 (by decide) WM_nd rfl fldX7_ok xKs_nil xGs_nil (Or.inr rfl) xcal_nil ?_ ?_
  · rintro av σ ⟨rfl, hpre⟩
    exact Nat.le_of_ble_eq_true rfl
  rintro av σ ⟨rfl, ⟨hp1, hp2⟩⟩ Rt hR
  have hwk := xwk6 hp2
  have hcn : nI (tn (σ.1 0 1)) = σ.1 0 1 := tn_of hp1
  have hx : fX7_isAlike [.ref 0] σ = (some (.int (if xany (akP σ) (tn (σ.1 0 1) - 1) = false then 1 else 0)), σ) := rfl
  rw [hx] at hR
  clear hx
  generalize hN : tn (σ.1 0 1) = N at *
  have h1 : ∀ i, i ≤ N - 1 → (∀ j, j < i → akP σ j = false) → xGo WM 2 (xlk fldX7) (xlk calX7_isAlike) (xlk []) (xlk []) (fun _ => none) 1 cX7_isAlike Rt 2 [some (.ref 0), some (.int (nI (i + 1)))] [] (σ) := by
    refine xcount (N - 1) (fun i => (∀ j, j < i → akP σ j = false) → xGo WM 2 (xlk fldX7) (xlk calX7_isAlike) (xlk []) (xlk []) (fun _ => none) 1 cX7_isAlike Rt 2 [some (.ref 0), some (.int (nI (i + 1)))] [] (σ)) (fun i hi ih hH => ?_)
    have hc : σ.1 0 1 ≤ nI (i + 1) ↔ N ≤ i + 1 := by rw [← hcn]; exact nI_leI (by omega) (by omega)
    have e0 : 0 ≤ nI (i + 1) := nI_pos' (by omega)
    have e1 : nI (i + 1) + 1 = nI (i + 1 + 1) := nI_1 (i + 1)
    have e2 : tn (nI (i + 1)) = i + 1 := tn_nI (by omega)
    refine xtoCs [(2, xPc (i < N - 1 ∧ (∀ j, j < (i + 1) → akP σ j = false)) [some (.ref 0), some (.int (nI ((i + 1) + 1)))] (σ))] (xcs_cons (fun q => ih q.1 q.2) xcs_nil) 60 (fun cf hcf => ?_)
    have k2 : cf 2 = some (xPc (i < N - 1 ∧ (∀ j, j < (i + 1) → akP σ j = false)) [some (.ref 0), some (.int (nI ((i + 1) + 1)))] (σ)) := (hcf 2).trans rfl
    have kn : ∀ pc, ¬ pc = 2 → cf pc = none := fun pc h0 => by rw [hcf, xlk_c, if_neg h0, xlk_n]
    clear hcf
    simp (config := {maxSteps := 4000000, implicitDefEqProofs := false}) only [xwp_2, xwp_0, xwp_1, xws_s, xdd_o, xld_0, xld_s, xs1_0, xs1_1, xs1_s, xs2_0, xs2_1, xs2_s, xlg_n, xlg_i, xlg_r, xlg_z, xlg_l, xf4_0, xf4_1, xf4_2, xf4_3, xgo_e, xcmp_eq, xcmp_ne, xcmp_lt, xcmp_ge, xcmp_gt, xcmp_le, xfg_0, xfg_1, xfg_2, xfg_3, xfg_4, xpop_0, xpop_s, xsw_n, xsw_c, xtb_n, xtb_c, xenp_n, xenp_i, xenp_r, xenp_z, xenp_l, xrep_0, xrep_s, Nat.reduceSub, true_and, and_true, cat_i, cat_r, Nat.reduceAdd, Nat.reduceLT, Nat.reduceLeDiff, Nat.reduceEqDiff, xnc, Int.reduceAdd, Int.reduceSub, Int.reduceNeg, Int.reduceLE, Int.reduceLT, Int.reduceToNat, ↓reduceIte, List.length_cons, List.length_nil, xlc0, xlc1, ite_10, i10, i01, i0_2, i0_3, i0_4, i0_6, i0_7, i0_8, i0_49, i0_10, or_true, true_or, or_false, false_or, not_false_eq_true, not_true_eq_false, xnt, xI_g, eq_self, xI_2, xJ_1, false_and, and_false, obM_t, rMi, vp_tn, tn_def, lgc, nI8, nI6, nI160, nI20, nI401, nI49, aM_6, aM_7, aM_8, aM_9, aM_10, aM_11, aM_12, aM_13, aM_14, aM_15, aM_16, aM_17, aM_18, aM_19, aM_20, aM_21, aM_22, aM_23, aM_24, aM_25, aM_26, aM_27, aM_28, aM_29, aM_30, aM_31, aM_38, aM_39, aM_40, aM_41, aM_42, aM_43, aM_44, aM_45, aM_46, aM_47, lM_6, lM_7, lM_8, lM_9, lM_10, lM_11, lM_12, lM_13, lM_14, lM_15, lM_16, lM_17, lM_18, lM_19, lM_20, lM_21, lM_22, lM_23, lM_24, lM_25, lM_26, lM_27, lM_28, lM_29, lM_30, lM_31, lM_38, lM_39, lM_40, lM_41, lM_42, lM_43, lM_44, lM_45, lM_46, lM_47, dX7_isAlike_0, st_iconst, dX7_isAlike_1, st_istore_n, dX7_isAlike_2, st_iload_n, dX7_isAlike_3, st_aload_n, dX7_isAlike_4, st_getfield, fl_X7_126, dX7_isAlike_7, st_if_icmp, dX7_isAlike_10, dX7_isAlike_11, fl_X7_44, dX7_isAlike_14, dX7_isAlike_15, st_iaload, dX7_isAlike_16, dX7_isAlike_17, dX7_isAlike_20, dX7_isAlike_21, dX7_isAlike_22, dX7_isAlike_25, dX7_isAlike_26, st_ireturn, dX7_isAlike_27, st_iinc, dX7_isAlike_30, st_goto, dX7_isAlike_33, dX7_isAlike_34, ofJ_1, ofI_0, hp1, hp2, xwp_s, xcu_s, xcu_n, xPc_e, xsub_0, xsub_n, xsub_s, k2, kn, hc, e0, e1, e2]
    have fin : N ≤ i + 1 → xany (akP σ) (N - 1) = false := fun h => xany_f (fun j hj => hH j (by omega))
    have stop : i < N - 1 → akP σ i = true → xany (akP σ) (N - 1) = true := fun h1 h2 => xany_t h1 h2
    have cont : akP σ i = false → (∀ j, j < i + 1 → akP σ j = false) := fun h2 => xall_s hH h2
    have e5 : akP σ i = decide (¬ σ.1 15 (i + 1) = σ.1 15 0) := rfl
    have h6 : ¬ N ≤ i + 1 → i + 1 < 6 := fun h => by omega
    have h7 : ¬ N ≤ i + 1 → i < N - 1 := fun h => by omega
    simp only [hR]
    clear hR hc ih
    generalize xany (akP σ) (N - 1) = u at *
    have z0 : tn (0 : Int32) = 0 := rfl
    simp only [z0]
    grind (splits := 40)
  refine xtoN [(2, xPc (True) [some (.ref 0), some (.int (nI (0 + 1)))] (σ))] (xcs_cons (fun _ => h1 0 (Nat.zero_le _) (fun j hj => by omega)) xcs_nil) 10 ?_
  have z : nI (0 + 1) = 1 := rfl
  simp -implicitDefEqProofs only [xwp_2, xwp_0, xwp_1, xws_s, xdd_o, xld_0, xld_s, xs1_0, xs1_1, xs1_s, xs2_0, xs2_1, xs2_s, xlg_n, xlg_i, xlg_r, xlg_z, xlg_l, xf4_0, xf4_1, xf4_2, xf4_3, xgo_e, xcmp_eq, xcmp_ne, xcmp_lt, xcmp_ge, xcmp_gt, xcmp_le, xfg_0, xfg_1, xfg_2, xfg_3, xfg_4, xpop_0, xpop_s, xsw_n, xsw_c, xtb_n, xtb_c, xenp_n, xenp_i, xenp_r, xenp_z, xenp_l, xrep_0, xrep_s, Nat.reduceSub, true_and, and_true, cat_i, cat_r, Nat.reduceAdd, Nat.reduceLT, Nat.reduceLeDiff, Nat.reduceEqDiff, xnc, Int.reduceAdd, Int.reduceSub, Int.reduceNeg, Int.reduceLE, Int.reduceLT, Int.reduceToNat, ↓reduceIte, List.length_cons, List.length_nil, xlc0, xlc1, ite_10, i10, i01, i0_2, i0_3, i0_4, i0_6, i0_7, i0_8, i0_49, i0_10, or_true, true_or, or_false, false_or, not_false_eq_true, not_true_eq_false, xnt, xI_g, eq_self, xI_2, xJ_1, false_and, and_false, obM_t, rMi, vp_tn, tn_def, lgc, nI8, nI6, nI160, nI20, nI401, nI49, aM_6, aM_7, aM_8, aM_9, aM_10, aM_11, aM_12, aM_13, aM_14, aM_15, aM_16, aM_17, aM_18, aM_19, aM_20, aM_21, aM_22, aM_23, aM_24, aM_25, aM_26, aM_27, aM_28, aM_29, aM_30, aM_31, aM_38, aM_39, aM_40, aM_41, aM_42, aM_43, aM_44, aM_45, aM_46, aM_47, lM_6, lM_7, lM_8, lM_9, lM_10, lM_11, lM_12, lM_13, lM_14, lM_15, lM_16, lM_17, lM_18, lM_19, lM_20, lM_21, lM_22, lM_23, lM_24, lM_25, lM_26, lM_27, lM_28, lM_29, lM_30, lM_31, lM_38, lM_39, lM_40, lM_41, lM_42, lM_43, lM_44, lM_45, lM_46, lM_47, dX7_isAlike_0, st_iconst, dX7_isAlike_1, st_istore_n, dX7_isAlike_2, st_iload_n, dX7_isAlike_3, st_aload_n, dX7_isAlike_4, st_getfield, fl_X7_126, dX7_isAlike_7, st_if_icmp, dX7_isAlike_10, dX7_isAlike_11, fl_X7_44, dX7_isAlike_14, dX7_isAlike_15, st_iaload, dX7_isAlike_16, dX7_isAlike_17, dX7_isAlike_20, dX7_isAlike_21, dX7_isAlike_22, dX7_isAlike_25, dX7_isAlike_26, st_ireturn, dX7_isAlike_27, st_iinc, dX7_isAlike_30, st_goto, dX7_isAlike_33, dX7_isAlike_34, ofJ_1, ofI_0, hp1, hp2, xwp_L, xlk_c, xlk_n, xcu_s, xcu_n, xPc_e, xsub_0, xsub_n, xsub_s, z]
theorem rX7_isAlike : ∀ as σ, pX7_isAlike as σ → ∃ K as', as = .ref K :: as' ∧ xob WM K 7 := by
  rintro as σ ⟨rfl, hpre⟩
  exact ⟨_, _, rfl, by first | exact hpre | exact hpre.1 | exact obT hpre | exact obT hpre.1 | exact obS hpre | exact obS hpre.1 | exact obM | exact ob6 | exact ob2 | exact ob0⟩
def nxP (σ : xS) (n w j : Nat) : Bool := decide (σ.1 13 (oth n w j) = σ.1 13 w)
def nxN (σ : xS) (n w : Nat) : Int32 := if xfs (nxP σ n w) (n - 1) < n - 1 then nI (oth n w (xfs (nxP σ n w) (n - 1))) else -1
def nxM (σ : xS) (x : Int32) : Int32 := nxN σ (tn (σ.1 0 1)) (tn x)
theorem oth_mod {n v i : Nat} (hv : v < n) (hi : i + 1 < n) : (v + (i + 1)) % n = oth n v i := by
  unfold oth
  split
  · rename_i h; exact Nat.mod_eq_of_lt h
  · rename_i h
    rw [Nat.mod_eq_sub_mod (by omega)]
    exact Nat.mod_eq_of_lt (by omega)
theorem xrem_n {a d : Nat} (ha : a < 2 ^ 31) (h0 : 0 < d) (hd : d < 2 ^ 31) : xrem (nI a) (nI d) = nI (a % d) := pk_rem ha h0 hd
def pX7_nextOf (as : List Value) (σ : xS) : Prop := ∃ (x : Int32), as = [.ref 0, .int x] ∧ ((0 ≤ σ.1 0 1) ∧ (σ.1 0 1 ≤ 6) ∧ (0 ≤ x) ∧ (x < σ.1 0 1))
def fX7_nextOf (as : List Value) (σ : xS) : Option Value × xS := match as with
  | [.ref 0, .int x] => (some (.int (nxM σ x)), σ)
  | _ => (none, σ)
theorem pX7_nextOf_e {x : Int32} {σ : xS} : pX7_nextOf [.ref 0, .int x] σ = ((0 ≤ σ.1 0 1) ∧ (σ.1 0 1 ≤ 6) ∧ (0 ≤ x) ∧ (x < σ.1 0 1)) := propext ⟨fun h => by obtain ⟨x, e, h⟩ := h; cases e; exact h, fun h => ⟨x, rfl, h⟩⟩
theorem fX7_nextOf_e {x : Int32} {σ : xS} : fX7_nextOf [.ref 0, .int x] σ = (some (.int (nxM σ x)), σ) := rfl
def calX7_nextOf : List (Nat × xCall) := []
set_option maxHeartbeats 4000000 in
set_option maxRecDepth 100000 in
theorem mX7_nextOf : xMet WM yX7_nextOf cX7_nextOf 3 (some .int) 1 pX7_nextOf fX7_nextOf := by
  refine xMet_of (fld := xlk fldX7) (cal := xlk calX7_nextOf) (ks := xlk []) (gs := xlk []) (ro := fun _ => none) 0 (by decide) WM_nd rfl fldX7_ok xKs_nil xGs_nil (Or.inr rfl) xcal_nil ?_ ?_
  · rintro av σ ⟨x, rfl, hpre⟩
    exact Nat.le_of_ble_eq_true rfl
  rintro av σ ⟨x, rfl, ⟨hp1, hp2, hp3, hp4⟩⟩ Rt hR
  have hwk := xwk6 hp2
  have hx : nI (tn x) = x := tn_of hp3
  have hcn : nI (tn (σ.1 0 1)) = σ.1 0 1 := tn_of hp1
  have hlt : tn x < tn (σ.1 0 1) := by rw [← nI_ltI (by have := tn_lt31 x; omega) (by have := tn_lt31 (σ.1 0 1); omega), hx, hcn]; exact hp4
  have hfn : fX7_nextOf [.ref 0, .int x] σ = (some (.int (nxN σ (tn (σ.1 0 1)) (tn x))), σ) := rfl
  rw [hfn] at hR
  generalize hn0 : tn (σ.1 0 1) = n at *
  generalize hw0 : tn x = v at *
  subst hx
  clear hfn
  have hv0 : 0 ≤ nI v := nI_pos' (by omega)
  have hv6 : v < 6 := by omega
  have hvt : tn (nI v) = v := tn_nI (by omega)
  have hnz : ¬ nI n = 0 := fun e => by
    have := (nI_eq (a := n) (b := 0) (by omega) (by omega)).mp e
    omega
  have h1 : ∀ i, i ≤ n - 1 → (∀ j, j < i → nxP σ n v j = false) → xGo WM 3 (xlk fldX7) (xlk calX7_nextOf) (xlk []) (xlk []) (fun _ => none) 0 cX7_nextOf Rt 2 [some (.ref 0), some (.int (nI v)), some (.int (nI (i + 1)))] [] (σ) := by
    refine xcount (n - 1) (fun i => (∀ j, j < i → nxP σ n v j = false) → xGo WM 3 (xlk fldX7) (xlk calX7_nextOf) (xlk []) (xlk []) (fun _ => none) 0 cX7_nextOf Rt 2 [some (.ref 0), some (.int (nI v)), some (.int (nI (i + 1)))] [] (σ)) (fun i hi ih hH => ?_)
    have hc : nI n ≤ nI (i + 1) ↔ n ≤ i + 1 := nI_leI (by omega) (by omega)
    have e1 : nI (i + 1) + 1 = nI (i + 1 + 1) := nI_1 (i + 1)
    refine xtoCs [(2, xPc (i < n - 1 ∧ (∀ j, j < (i + 1) → nxP σ n v j = false)) [some (.ref 0), some (.int (nI v)), some (.int (nI ((i + 1) + 1)))] (σ))] (xcs_cons (fun q => ih q.1 q.2) xcs_nil) 60 (fun cf hcf => ?_)
    have k2 : cf 2 = some (xPc (i < n - 1 ∧ (∀ j, j < (i + 1) → nxP σ n v j = false)) [some (.ref 0), some (.int (nI v)), some (.int (nI ((i + 1) + 1)))] (σ)) := (hcf 2).trans rfl
    have kn : ∀ pc, ¬ pc = 2 → cf pc = none := fun pc h0 => by rw [hcf, xlk_c, if_neg h0, xlk_n]
    clear hcf
    simp (config := {maxSteps := 4000000, implicitDefEqProofs := false}) only [xwp_2, xwp_0, xwp_1, xws_s, xdd_o, xld_0, xld_s, xs1_0, xs1_1, xs1_s, xs2_0, xs2_1, xs2_s, xlg_n, xlg_i, xlg_r, xlg_z, xlg_l, xf4_0, xf4_1, xf4_2, xf4_3, xgo_e, xcmp_eq, xcmp_ne, xcmp_lt, xcmp_ge, xcmp_gt, xcmp_le, xfg_0, xfg_1, xfg_2, xfg_3, xfg_4, xpop_0, xpop_s, xsw_n, xsw_c, xtb_n, xtb_c, xenp_n, xenp_i, xenp_r, xenp_z, xenp_l, xrep_0, xrep_s, Nat.reduceSub, true_and, and_true, cat_i, cat_r, Nat.reduceAdd, Nat.reduceLT, Nat.reduceLeDiff, Nat.reduceEqDiff, xnc, Int.reduceAdd, Int.reduceSub, Int.reduceNeg, Int.reduceLE, Int.reduceLT, Int.reduceToNat, ↓reduceIte, List.length_cons, List.length_nil, xlc0, xlc1, ite_10, i10, i01, i0_2, i0_3, i0_4, i0_6, i0_7, i0_8, i0_49, i0_10, or_true, true_or, or_false, false_or, not_false_eq_true, not_true_eq_false, xnt, xI_g, eq_self, xI_2, xJ_1, false_and, and_false, obM_t, rMi, vp_tn, tn_def, lgc, nI8, nI6, nI160, nI20, nI401, nI49, aM_6, aM_7, aM_8, aM_9, aM_10, aM_11, aM_12, aM_13, aM_14, aM_15, aM_16, aM_17, aM_18, aM_19, aM_20, aM_21, aM_22, aM_23, aM_24, aM_25, aM_26, aM_27, aM_28, aM_29, aM_30, aM_31, aM_38, aM_39, aM_40, aM_41, aM_42, aM_43, aM_44, aM_45, aM_46, aM_47, lM_6, lM_7, lM_8, lM_9, lM_10, lM_11, lM_12, lM_13, lM_14, lM_15, lM_16, lM_17, lM_18, lM_19, lM_20, lM_21, lM_22, lM_23, lM_24, lM_25, lM_26, lM_27, lM_28, lM_29, lM_30, lM_31, lM_38, lM_39, lM_40, lM_41, lM_42, lM_43, lM_44, lM_45, lM_46, lM_47, dX7_nextOf_0, st_iconst, dX7_nextOf_1, st_istore_n, dX7_nextOf_2, st_iload_n, dX7_nextOf_3, st_aload_n, dX7_nextOf_4, st_getfield, fl_X7_126, dX7_nextOf_7, st_if_icmp, dX7_nextOf_10, dX7_nextOf_11, fl_X7_38, dX7_nextOf_14, dX7_nextOf_15, dX7_nextOf_16, st_iadd, dX7_nextOf_17, dX7_nextOf_18, dX7_nextOf_21, st_irem, dX7_nextOf_22, st_iaload, dX7_nextOf_23, dX7_nextOf_24, dX7_nextOf_27, dX7_nextOf_28, dX7_nextOf_29, dX7_nextOf_32, dX7_nextOf_33, dX7_nextOf_34, dX7_nextOf_35, dX7_nextOf_36, dX7_nextOf_39, dX7_nextOf_40, st_ireturn, dX7_nextOf_41, st_iinc, dX7_nextOf_44, st_goto, dX7_nextOf_47, dX7_nextOf_48, ofJ_1, ofI_m1, hp1, hp2, hp3, hp4, xwp_s, xcu_s, xcu_n, xPc_e, xsub_0, xsub_n, xsub_s, k2, kn, ← hcn, hc, e1, nI_add, hv0, hvt, hv6, hnz, hp3]
    refine ⟨fun h => ?_, fun h => ?_⟩
    · rw [hR, nxN, xfs_no (fun j hj => hH j (by omega)), if_neg (Nat.lt_irrefl _)]
      exact ⟨rfl, rfl⟩
    · have h1 : i + 1 < n := by omega
      have ho := oth_lt hlt h1
      have e3 : xrem (nI (v + (i + 1))) (nI n) = nI (oth n v i) := by rw [xrem_n (by omega) (by omega) (by omega), oth_mod hlt h1]
      have e4 : 0 ≤ nI (oth n v i) := nI_pos' (by omega)
      have e5 : tn (nI (oth n v i)) = oth n v i := tn_nI (by omega)
      have e6 : oth n v i < 6 := by omega
      have e7 : nxP σ n v i = decide (σ.1 13 (oth n v i) = σ.1 13 v) := rfl
      have cont : nxP σ n v i = false → (∀ j, j < i + 1 → nxP σ n v j = false) := fun h2 => xall_s hH h2
      have stop : nxP σ n v i = true → Rt (some (.int (nI (oth n v i)))) σ := fun h2 => by
        have e8 : xfs (nxP σ n v) (n - 1) = i := xfs_at (by omega) h2 hH
        rw [hR, nxN, e8, if_pos (by omega)]
        exact ⟨rfl, rfl⟩
      simp only [e3, e4, e5, e6, true_and]
      have h2 : i < n - 1 := by omega
      clear hR hc ih
      grind (splits := 40)
  refine xtoN [(2, xPc (True) [some (.ref 0), some (.int (nI v)), some (.int (nI (0 + 1)))] (σ))] (xcs_cons (fun _ => h1 0 (Nat.zero_le _) (fun j hj => by omega)) xcs_nil) 10 ?_
  have z : nI (0 + 1) = 1 := rfl
  simp -implicitDefEqProofs only [xwp_2, xwp_0, xwp_1, xws_s, xdd_o, xld_0, xld_s, xs1_0, xs1_1, xs1_s, xs2_0, xs2_1, xs2_s, xlg_n, xlg_i, xlg_r, xlg_z, xlg_l, xf4_0, xf4_1, xf4_2, xf4_3, xgo_e, xcmp_eq, xcmp_ne, xcmp_lt, xcmp_ge, xcmp_gt, xcmp_le, xfg_0, xfg_1, xfg_2, xfg_3, xfg_4, xpop_0, xpop_s, xsw_n, xsw_c, xtb_n, xtb_c, xenp_n, xenp_i, xenp_r, xenp_z, xenp_l, xrep_0, xrep_s, Nat.reduceSub, true_and, and_true, cat_i, cat_r, Nat.reduceAdd, Nat.reduceLT, Nat.reduceLeDiff, Nat.reduceEqDiff, xnc, Int.reduceAdd, Int.reduceSub, Int.reduceNeg, Int.reduceLE, Int.reduceLT, Int.reduceToNat, ↓reduceIte, List.length_cons, List.length_nil, xlc0, xlc1, ite_10, i10, i01, i0_2, i0_3, i0_4, i0_6, i0_7, i0_8, i0_49, i0_10, or_true, true_or, or_false, false_or, not_false_eq_true, not_true_eq_false, xnt, xI_g, eq_self, xI_2, xJ_1, false_and, and_false, obM_t, rMi, vp_tn, tn_def, lgc, nI8, nI6, nI160, nI20, nI401, nI49, aM_6, aM_7, aM_8, aM_9, aM_10, aM_11, aM_12, aM_13, aM_14, aM_15, aM_16, aM_17, aM_18, aM_19, aM_20, aM_21, aM_22, aM_23, aM_24, aM_25, aM_26, aM_27, aM_28, aM_29, aM_30, aM_31, aM_38, aM_39, aM_40, aM_41, aM_42, aM_43, aM_44, aM_45, aM_46, aM_47, lM_6, lM_7, lM_8, lM_9, lM_10, lM_11, lM_12, lM_13, lM_14, lM_15, lM_16, lM_17, lM_18, lM_19, lM_20, lM_21, lM_22, lM_23, lM_24, lM_25, lM_26, lM_27, lM_28, lM_29, lM_30, lM_31, lM_38, lM_39, lM_40, lM_41, lM_42, lM_43, lM_44, lM_45, lM_46, lM_47, dX7_nextOf_0, st_iconst, dX7_nextOf_1, st_istore_n, dX7_nextOf_2, st_iload_n, dX7_nextOf_3, st_aload_n, dX7_nextOf_4, st_getfield, fl_X7_126, dX7_nextOf_7, st_if_icmp, dX7_nextOf_10, dX7_nextOf_11, fl_X7_38, dX7_nextOf_14, dX7_nextOf_15, dX7_nextOf_16, st_iadd, dX7_nextOf_17, dX7_nextOf_18, dX7_nextOf_21, st_irem, dX7_nextOf_22, st_iaload, dX7_nextOf_23, dX7_nextOf_24, dX7_nextOf_27, dX7_nextOf_28, dX7_nextOf_29, dX7_nextOf_32, dX7_nextOf_33, dX7_nextOf_34, dX7_nextOf_35, dX7_nextOf_36, dX7_nextOf_39, dX7_nextOf_40, st_ireturn, dX7_nextOf_41, st_iinc, dX7_nextOf_44, st_goto, dX7_nextOf_47, dX7_nextOf_48, ofJ_1, ofI_m1, hp1, hp2, hp3, hp4, xwp_L, xlk_c, xlk_n, xcu_s, xcu_n, xPc_e, xsub_0, xsub_n, xsub_s, z]
theorem rX7_nextOf : ∀ as σ, pX7_nextOf as σ → ∃ K as', as = .ref K :: as' ∧ xob WM K 7 := by
  rintro as σ ⟨x, rfl, hpre⟩
  exact ⟨_, _, rfl, by first | exact hpre | exact hpre.1 | exact obT hpre | exact obT hpre.1 | exact obS hpre | exact obS hpre.1 | exact obM | exact ob6 | exact ob2 | exact ob0⟩
theorem doM_o {σ : xS} {w a b : Nat} (h : b ≠ w ∨ (a ≠ 13 ∧ a ≠ 14 ∧ a ≠ 16)) : (doM σ w).1 a b = σ.1 a b := by
  unfold doM doA
  rw [xI_n (by omega)]
  split
  · split
    · rw [xI_n (by omega)]
    · rw [xI_n (by omega)]
  · split
    · rw [xI_n (by omega)]
    · rfl
theorem dyP_do {σ : xS} {w j : Nat} (hj : j ≠ w) (h : dyP σ j) : dyP (doM σ w) j := by
  unfold dyP at *
  rw [doM_o (a := 15) (by omega), doM_o (a := 16) (by omega), doM_o (a := 8) (by omega)]
  exact h
def dm1 : Nat → xS → xS
  | 0, σ => σ
  | i + 1, σ => doM (dm1 i σ) i
theorem dm1_s {i : Nat} {σ : xS} : dm1 (i + 1) σ = doM (dm1 i σ) i := rfl
theorem dm1_0 {σ : xS} : dm1 0 σ = σ := rfl
theorem dm1_o {σ : xS} {a b : Nat} (h : a ≠ 13 ∧ a ≠ 14 ∧ a ≠ 16) : ∀ {i : Nat}, (dm1 i σ).1 a b = σ.1 a b
  | 0 => rfl
  | i + 1 => by rw [dm1_s, doM_o (Or.inr h)]; exact dm1_o h
theorem dm1_dy {σ : xS} {n : Nat} (h : ∀ j, j < n → dyP σ j) : ∀ i j, i ≤ j → j < n → dyP (dm1 i σ) j
  | 0, j, _, hj => h j hj
  | i + 1, j, hi, hj => by
    rw [dm1_s]
    exact dyP_do (by omega) (dm1_dy h i j (by omega) hj)
theorem toM_o {σ : xS} {w f a b : Nat} (h : a ≠ 15 ∧ a ≠ 16 ∧ a ≠ 17) : (toM σ w f).1 a b = σ.1 a b := by
  unfold toM
  rw [xI_n (by omega), xI_n (by omega), xI_n (by omega)]
theorem hsM_o {σ : xS} {a b : Nat} (h : a ≠ 40 ∧ a ≠ 41 ∧ a ≠ 42 ∧ a ≠ 43) : (hsM σ).1 a b = σ.1 a b := by
  unfold hsM
  refine cpA_e ?_
  unfold mHS
  rw [if_neg h.1, if_neg h.2.1, if_neg h.2.2.1, if_neg h.2.2.2]
def p2B (σ : xS) (w f : Nat) : xS := if tkMb σ w f = true ∧ gvMb σ f = true then xI (toM σ w f) 14 w (σ.1 40 f) else σ
def p2M (σ : xS) (w : Nat) : xS := if nxM σ (nI w) = -1 then xI σ 44 w 0 else p2B (xI σ 44 w 1) w (tn (nxM σ (nI w)))
def fsP (σ : xS) (w v : Nat) : Bool := decide (σ.1 13 v = σ.1 13 w)
def fsV (σ : xS) (w j : Nat) : Int32 := if xany (fsP σ w) j = true then 0 else 1
def pm2 : Nat → xS → xS
  | 0, σ => σ
  | i + 1, σ => p2M (pm2 i σ) i
def c2M (σ : xS) (w : Nat) (c : Int32) : Int32 := if nxM σ (nI w) = -1 then c else if fsV σ w w = 0 then c else c + 1
def cm2 : Nat → xS → Int32
  | 0, _ => 0
  | i + 1, σ => c2M (pm2 i σ) i (cm2 i σ)
theorem pm2_s {i : Nat} {σ : xS} : pm2 (i + 1) σ = p2M (pm2 i σ) i := rfl
theorem cm2_s {i : Nat} {σ : xS} : cm2 (i + 1) σ = c2M (pm2 i σ) i (cm2 i σ) := rfl
theorem pm2_0 {σ : xS} : pm2 0 σ = σ := rfl
theorem cm2_0 {σ : xS} : cm2 0 σ = 0 := rfl
def lqP (σ : xS) (w v : Nat) : Bool := decide (σ.1 11 v = 5 ∧ bsM (σ.1 13 v) (σ.1 13 w) = 1 ∧ tkMb σ w v = true)
def p3B (n : Nat) (σ : xS) (w : Nat) : xS := if xfs (lqP σ w) n < n then toM σ w (xfs (lqP σ w) n) else σ
def p3M (n : Nat) (σ : xS) (w : Nat) : xS := if σ.1 44 w = 1 ∨ σ.1 11 w = 5 then σ else p3B n σ w
def pm3 (n : Nat) : Nat → xS → xS
  | 0, σ => σ
  | i + 1, σ => p3M n (pm3 n i σ) i
theorem pm3_s {n i : Nat} {σ : xS} : pm3 n (i + 1) σ = p3M n (pm3 n i σ) i := rfl
theorem pm3_0 {n : Nat} {σ : xS} : pm3 n 0 σ = σ := rfl
theorem p2B_o {σ : xS} {w f a b : Nat} (h : a ≠ 14 ∧ a ≠ 15 ∧ a ≠ 16 ∧ a ≠ 17) : (p2B σ w f).1 a b = σ.1 a b := by
  unfold p2B
  split
  · rw [xI_n (by omega), toM_o (by omega)]
  · rfl
theorem p2M_o {σ : xS} {w a b : Nat} (h : a ≠ 14 ∧ a ≠ 15 ∧ a ≠ 16 ∧ a ≠ 17 ∧ a ≠ 44) : (p2M σ w).1 a b = σ.1 a b := by
  unfold p2M
  split
  · rw [xI_n (by omega)]
  · rw [p2B_o (by omega), xI_n (by omega)]
theorem pm2_o {σ : xS} {a b : Nat} (h : a ≠ 14 ∧ a ≠ 15 ∧ a ≠ 16 ∧ a ≠ 17 ∧ a ≠ 44) : ∀ {i : Nat}, (pm2 i σ).1 a b = σ.1 a b
  | 0 => rfl
  | i + 1 => by rw [pm2_s, p2M_o h]; exact pm2_o h
theorem p3M_o {n : Nat} {σ : xS} {w a b : Nat} (h : a ≠ 15 ∧ a ≠ 16 ∧ a ≠ 17) : (p3M n σ w).1 a b = σ.1 a b := by
  unfold p3M p3B
  split
  · rfl
  · split
    · exact toM_o h
    · rfl
theorem pm3_o {n : Nat} {σ : xS} {a b : Nat} (h : a ≠ 15 ∧ a ≠ 16 ∧ a ≠ 17) : ∀ {i : Nat}, (pm3 n i σ).1 a b = σ.1 a b
  | 0 => rfl
  | i + 1 => by rw [pm3_s, p3M_o h]; exact pm3_o h
theorem nx_r {σ : xS} {x : Int32} (hw : tn (σ.1 0 1) ≤ 6) (hlt : tn x < tn (σ.1 0 1)) : ¬ nxM σ x = -1 → 0 ≤ nxM σ x ∧ tn (nxM σ x) < tn (σ.1 0 1) := by
  intro h
  unfold nxM nxN at *
  generalize hn0 : tn (σ.1 0 1) = n at *
  split at h
  · rename_i h1
    rw [if_pos h1]
    have ho := oth_lt (n := n) (w := tn x) (j := xfs (nxP σ n (tn x)) (n - 1)) hlt (by omega)
    rw [tn_nI (by omega)]
    exact ⟨nI_pos' (by omega), ho⟩
  · exact absurd rfl h
def beT1 (σ : xS) : xS := hsM (dm1 (tn (σ.1 0 1)) σ)
def beT2 (σ : xS) : xS := hsM (pm2 (tn (σ.1 0 1)) (beT1 σ))
def beM (σ : xS) : xS := pm3 (tn (σ.1 0 1)) (tn (σ.1 0 1)) (beT2 σ)
def mcM (σ : xS) : Int32 := cm2 (tn (σ.1 0 1)) (beT1 σ)
def dyA (σ : xS) : Prop := ∀ w, w < tn (σ.1 0 1) → dyP σ w
theorem beM_o {σ : xS} {a b : Nat} (h : a < 13 ∨ 17 < a ∧ a < 40 ∨ 44 < a) : (beM σ).1 a b = σ.1 a b := by
  unfold beM beT2 beT1
  rw [pm3_o (by omega), hsM_o (by omega), pm2_o (by omega), hsM_o (by omega), dm1_o (by omega)]
def pX7_beats1 (as : List Value) (σ : xS) : Prop := as = [.ref 0] ∧ ((0 ≤ σ.1 0 1) ∧ (σ.1 0 1 ≤ 6) ∧ (dyA σ))
def fX7_beats1 (as : List Value) (σ : xS) : Option Value × xS := match as with
  | [.ref 0] => (some (.int (mcM σ)), beM σ)
  | _ => (none, σ)
theorem pX7_beats1_e {σ : xS} : pX7_beats1 [.ref 0] σ = ((0 ≤ σ.1 0 1) ∧ (σ.1 0 1 ≤ 6) ∧ (dyA σ)) := propext ⟨fun h => h.2, fun h => ⟨rfl, h⟩⟩
theorem fX7_beats1_e  {σ : xS} : fX7_beats1 [.ref 0] σ = (some (.int (mcM σ)), beM σ) := rfl
def calX7_beats1 : List (Nat × xCall) := [(264, (false, 2, pX7_does, fX7_does)), (268, (false, 1, pX7_holdsStill, fX7_holdsStill)), (271, (false, 2, pX7_nextOf, fX7_nextOf)), (274, (false, 3, pX7_takes, fX7_takes)), (277, (false, 2, pX7_gives, fX7_gives)), (280, (false, 3, pX7_takesOn, fX7_takesOn)), (146, (false, 3, pX7_isBeside, fX7_isBeside))]
theorem c_X7_beats1_264 : xlk calX7_beats1 264 = some (false, 2, pX7_does, fX7_does) := rfl
theorem c_X7_beats1_268 : xlk calX7_beats1 268 = some (false, 1, pX7_holdsStill, fX7_holdsStill) := rfl
theorem c_X7_beats1_271 : xlk calX7_beats1 271 = some (false, 2, pX7_nextOf, fX7_nextOf) := rfl
theorem c_X7_beats1_274 : xlk calX7_beats1 274 = some (false, 3, pX7_takes, fX7_takes) := rfl
theorem c_X7_beats1_277 : xlk calX7_beats1 277 = some (false, 2, pX7_gives, fX7_gives) := rfl
theorem c_X7_beats1_280 : xlk calX7_beats1 280 = some (false, 3, pX7_takesOn, fX7_takesOn) := rfl
theorem c_X7_beats1_146 : xlk calX7_beats1 146 = some (false, 3, pX7_isBeside, fX7_isBeside) := rfl
set_option maxHeartbeats 4000000 in
set_option maxRecDepth 100000 in
theorem mX7_beats1 : xMet WM yX7_beats1 cX7_beats1 6 (some .int) 3 pX7_beats1 fX7_beats1 := by
  refine xMet_of (fld := xlk fldX7) (cal := xlk calX7_beats1) (ks := xlk []) (gs := xlk []) (ro := fun _ => none) 0 (by decide) WM_nd rfl fldX7_ok xKs_nil xGs_nil (Or.inr rfl) (xcal_cons (xCk_V mX7_does 7 (by decide) (by decide) (by decide) rfl (fun as σ h _ => rX7_does as σ h) w_X7_264 ⟨by decide, by decide, by decide +kernel⟩) (xcal_cons (xCk_V mX7_holdsStill 7 (by decide) (by decide) (by decide) rfl (fun as σ h _ => rX7_holdsStill as σ h) w_X7_268 ⟨by decide, by decide, by decide +kernel⟩) (xcal_cons (xCk_V mX7_nextOf 7 (by decide) (by decide) (by decide) rfl (fun as σ h _ => rX7_nextOf as σ h) w_X7_271 ⟨by decide, by decide, by decide +kernel⟩) (xcal_cons (xCk_V mX7_takes 7 (by decide) (by decide) (by decide) rfl (fun as σ h _ => rX7_takes as σ h) w_X7_274 ⟨by decide, by decide, by decide +kernel⟩) (xcal_cons (xCk_V mX7_gives 7 (by decide) (by decide) (by decide) rfl (fun as σ h _ => rX7_gives as σ h) w_X7_277 ⟨by decide, by decide, by decide +kernel⟩) (xcal_cons (xCk_V mX7_takesOn 7 (by decide) (by decide) (by decide) rfl (fun as σ h _ => rX7_takesOn as σ h) w_X7_280 ⟨by decide, by decide, by decide +kernel⟩) (xcal_cons (xCk_V mX7_isBeside 7 (by decide) (by decide) (by decide) rfl (fun as σ h _ => rX7_isBeside as σ h) w_X7_146 ⟨by decide, by decide, by decide +kernel⟩) xcal_nil))))))) ?_ ?_
  · rintro av σ ⟨rfl, hpre⟩
    exact Nat.le_of_ble_eq_true rfl
  rintro av σ ⟨rfl, ⟨hp1, hp2, hp3⟩⟩ Rt hR
  have hwk := xwk6 hp2
  have hcn : nI (tn (σ.1 0 1)) = σ.1 0 1 := tn_of hp1
  have hx : fX7_beats1 [.ref 0] σ = (some (.int (cm2 (tn (σ.1 0 1)) (beT1 σ))), pm3 (tn (σ.1 0 1)) (tn (σ.1 0 1)) (beT2 σ)) := rfl
  rw [hx] at hR
  clear hx
  have hk1 : ∀ i, (dm1 i σ).1 0 1 = σ.1 0 1 := fun i => dm1_o (by omega)
  have hT1 : (beT1 σ).1 0 1 = σ.1 0 1 := by rw [beT1, hsM_o (by omega), hk1]
  have hk2 : ∀ i, (pm2 i (beT1 σ)).1 0 1 = σ.1 0 1 := fun i => by rw [pm2_o (by omega), hT1]
  have hT2 : (beT2 σ).1 0 1 = σ.1 0 1 := by rw [beT2, hsM_o (by omega), hk2]
  have hk3 : ∀ n i, (pm3 n i (beT2 σ)).1 0 1 = σ.1 0 1 := fun n i => by rw [pm3_o (by omega), hT2]
  have hb1 : beT1 σ = hsM (dm1 (tn (σ.1 0 1)) σ) := rfl
  have hb2 : beT2 σ = hsM (pm2 (tn (σ.1 0 1)) (beT1 σ)) := rfl
  unfold dyA at hp3
  have hdy := dm1_dy hp3
  have hle : ∀ i, i ≤ tn (σ.1 0 1) → (σ.1 0 1 ≤ nI i ↔ tn (σ.1 0 1) ≤ i) := fun i hi => by
    have := le_nI_tn (i := i) (x := σ.1 0 1) hi
    rw [this, Nat.not_lt]
  have hlt : ∀ i, i < tn (σ.1 0 1) → nI i < σ.1 0 1 := fun i hi => (nI_lt_tn (Nat.le_of_lt hi)).mpr hi
  generalize hn : tn (σ.1 0 1) = n at *
  generalize beT2 σ = T2 at *
  generalize beT1 σ = T1 at *
  generalize hC : cm2 n T1 = C at *
  have h162 : ∀ i, i ≤ n → xGo WM 6 (xlk fldX7) (xlk calX7_beats1) (xlk []) (xlk []) (fun _ => none) 0 cX7_beats1 Rt 162 [some (.ref 0), some (.int C), some (.int (nI i)), none, none, none] [] (pm3 n i T2) := by
    refine xcount (n) (fun i => xGo WM 6 (xlk fldX7) (xlk calX7_beats1) (xlk []) (xlk []) (fun _ => none) 0 cX7_beats1 Rt 162 [some (.ref 0), some (.int C), some (.int (nI i)), none, none, none] [] (pm3 n i T2)) (fun i hi ih => ?_)
    have e0 : 0 ≤ nI i := nI_pos' (by omega)
    have e1 : nI i + 1 = nI (i + 1) := nI_1 i
    have e2 : tn (nI i) = i := tn_nI (by omega)
    have hc := hle i hi
    have hkU := hk3 n i
    have hs3 := pm3_s (n := n) (i := i) (σ := T2)
    have h259 : i < n → xGo WM 6 (xlk fldX7) (xlk calX7_beats1) (xlk []) (xlk []) (fun _ => none) 0 cX7_beats1 Rt 259 [some (.ref 0), some (.int C), some (.int (nI i)), none, none, none] [] (pm3 n (i + 1) T2) := fun hlt' => by
      refine xtoC [(162, xPc (i < n) [some (.ref 0), some (.int C), some (.int (nI (i + 1))), none, none, none] (pm3 n (i + 1) T2))] (xcs_cons (ih) xcs_nil) 10 (fun cf hcf => ?_)
      have k162 : cf 162 = some (xPc (i < n) [some (.ref 0), some (.int C), some (.int (nI (i + 1))), none, none, none] (pm3 n (i + 1) T2)) := (hcf 162).trans rfl
      have kn : ∀ pc, ¬ pc = 162 → cf pc = none := fun pc h0 => by rw [hcf, xlk_c, if_neg h0, xlk_n]
      clear hcf
      simp (config := {maxSteps := 4000000, implicitDefEqProofs := false}) only [xwp_2, xwp_0, xwp_1, xws_s, xdd_o, xld_0, xld_s, xs1_0, xs1_1, xs1_s, xs2_0, xs2_1, xs2_s, xlg_n, xlg_i, xlg_r, xlg_z, xlg_l, xf4_0, xf4_1, xf4_2, xf4_3, xgo_e, xcmp_eq, xcmp_ne, xcmp_lt, xcmp_ge, xcmp_gt, xcmp_le, xfg_0, xfg_1, xfg_2, xfg_3, xfg_4, xpop_0, xpop_s, xsw_n, xsw_c, xtb_n, xtb_c, xenp_n, xenp_i, xenp_r, xenp_z, xenp_l, xrep_0, xrep_s, Nat.reduceSub, true_and, and_true, cat_i, cat_r, Nat.reduceAdd, Nat.reduceLT, Nat.reduceLeDiff, Nat.reduceEqDiff, xnc, Int.reduceAdd, Int.reduceSub, Int.reduceNeg, Int.reduceLE, Int.reduceLT, Int.reduceToNat, ↓reduceIte, List.length_cons, List.length_nil, xlc0, xlc1, ite_10, i10, i01, i0_2, i0_3, i0_4, i0_6, i0_7, i0_8, i0_49, i0_10, or_true, true_or, or_false, false_or, not_false_eq_true, not_true_eq_false, xnt, xI_g, eq_self, xI_2, xJ_1, false_and, and_false, obM_t, rMi, vp_tn, tn_def, lgc, nI8, nI6, nI160, nI20, nI401, nI49, aM_6, aM_7, aM_8, aM_9, aM_10, aM_11, aM_12, aM_13, aM_14, aM_15, aM_16, aM_17, aM_18, aM_19, aM_20, aM_21, aM_22, aM_23, aM_24, aM_25, aM_26, aM_27, aM_28, aM_29, aM_30, aM_31, aM_38, aM_39, aM_40, aM_41, aM_42, aM_43, aM_44, aM_45, aM_46, aM_47, lM_6, lM_7, lM_8, lM_9, lM_10, lM_11, lM_12, lM_13, lM_14, lM_15, lM_16, lM_17, lM_18, lM_19, lM_20, lM_21, lM_22, lM_23, lM_24, lM_25, lM_26, lM_27, lM_28, lM_29, lM_30, lM_31, lM_38, lM_39, lM_40, lM_41, lM_42, lM_43, lM_44, lM_45, lM_46, lM_47, dX7_beats1_0, st_iconst, dX7_beats1_1, st_istore_n, dX7_beats1_2, st_iload_n, dX7_beats1_3, st_aload_n, dX7_beats1_4, st_getfield, fl_X7_126, dX7_beats1_7, st_if_icmp, dX7_beats1_10, dX7_beats1_11, dX7_beats1_12, st_invokevirtual, dX7_beats1_15, st_iinc, dX7_beats1_18, st_goto, dX7_beats1_21, dX7_beats1_22, dX7_beats1_25, dX7_beats1_26, dX7_beats1_27, dX7_beats1_28, dX7_beats1_29, dX7_beats1_30, dX7_beats1_31, dX7_beats1_34, dX7_beats1_37, dX7_beats1_38, dX7_beats1_39, dX7_beats1_42, dX7_beats1_43, dX7_beats1_44, fl_X7_114, dX7_beats1_47, dX7_beats1_48, dX7_beats1_49, dX7_beats1_50, dX7_beats1_53, dX7_beats1_54, dX7_beats1_57, dX7_beats1_58, st_iastore, dX7_beats1_59, dX7_beats1_60, dX7_beats1_61, dX7_beats1_64, dX7_beats1_67, dX7_beats1_68, st_istore, dX7_beats1_70, dX7_beats1_71, dX7_beats1_73, st_iload, dX7_beats1_75, dX7_beats1_76, dX7_beats1_79, dX7_beats1_80, fl_X7_38, dX7_beats1_83, dX7_beats1_85, st_iaload, dX7_beats1_86, dX7_beats1_87, dX7_beats1_90, dX7_beats1_91, dX7_beats1_92, dX7_beats1_95, dX7_beats1_96, dX7_beats1_98, dX7_beats1_101, dX7_beats1_104, dX7_beats1_106, st_ifCond, dX7_beats1_109, dX7_beats1_112, dX7_beats1_113, dX7_beats1_114, dX7_beats1_115, dX7_beats1_118, dX7_beats1_121, dX7_beats1_122, dX7_beats1_123, dX7_beats1_126, dX7_beats1_129, dX7_beats1_132, dX7_beats1_133, dX7_beats1_134, dX7_beats1_135, dX7_beats1_138, dX7_beats1_139, fl_X7_41, dX7_beats1_142, dX7_beats1_143, dX7_beats1_144, fl_X7_102, dX7_beats1_147, dX7_beats1_148, dX7_beats1_149, dX7_beats1_150, dX7_beats1_153, dX7_beats1_156, dX7_beats1_157, dX7_beats1_160, dX7_beats1_161, dX7_beats1_162, dX7_beats1_163, dX7_beats1_164, dX7_beats1_167, dX7_beats1_170, dX7_beats1_171, dX7_beats1_174, dX7_beats1_175, dX7_beats1_176, dX7_beats1_177, dX7_beats1_180, dX7_beats1_181, fl_X7_32, dX7_beats1_184, dX7_beats1_185, dX7_beats1_186, dX7_beats1_187, dX7_beats1_190, dX7_beats1_193, dX7_beats1_194, dX7_beats1_195, dX7_beats1_196, dX7_beats1_197, dX7_beats1_200, dX7_beats1_203, dX7_beats1_204, dX7_beats1_207, dX7_beats1_208, dX7_beats1_209, dX7_beats1_210, dX7_beats1_213, dX7_beats1_214, dX7_beats1_215, dX7_beats1_218, dX7_beats1_219, dX7_beats1_220, dX7_beats1_221, dX7_beats1_224, dX7_beats1_225, dX7_beats1_226, dX7_beats1_229, dX7_beats1_232, dX7_beats1_233, dX7_beats1_234, dX7_beats1_235, dX7_beats1_238, dX7_beats1_241, dX7_beats1_244, dX7_beats1_245, dX7_beats1_246, dX7_beats1_247, dX7_beats1_250, dX7_beats1_253, dX7_beats1_256, dX7_beats1_259, dX7_beats1_262, dX7_beats1_265, dX7_beats1_266, st_ireturn, c_X7_beats1_264, pX7_does_e, fX7_does_e, Option.toList_some, Option.toList_none, List.cons_append, List.nil_append, c_X7_beats1_268, pX7_holdsStill_e, fX7_holdsStill_e, c_X7_beats1_271, pX7_nextOf_e, fX7_nextOf_e, c_X7_beats1_274, pX7_takes_e, fX7_takes_e, c_X7_beats1_277, pX7_gives_e, fX7_gives_e, c_X7_beats1_280, pX7_takesOn_e, fX7_takesOn_e, c_X7_beats1_146, pX7_isBeside_e, fX7_isBeside_e, ofI_0, ofJ_1, ofI_m1, ofI_5, hp1, hp2, hp3, xwp_s, xcu_s, xcu_n, xPc_e, xsub_0, xsub_n, xsub_s, k162, kn, e1]
      exact hlt'
    have h195 : i < n → ¬ ((pm3 n i T2).1 44 i = 1 ∨ (pm3 n i T2).1 11 i = 5) → xGo WM 6 (xlk fldX7) (xlk calX7_beats1) (xlk []) (xlk []) (fun _ => none) 0 cX7_beats1 Rt 195 [some (.ref 0), some (.int C), some (.int (nI i)), some (.int (nI 0)), none, none] [] (pm3 n i T2) := fun hlt' hno => by
      have h259 := h259 hlt'
      have hst : pm3 n (i + 1) T2 = p3B n (pm3 n i T2) i := by rw [hs3, p3M, if_neg hno]
      have h6i : i < 6 := by omega
      clear ih hs3
      generalize pm3 n i T2 = U at *
      have hin : ∀ j, j ≤ n → (∀ v, v < j → lqP U i v = false) → xGo WM 6 (xlk fldX7) (xlk calX7_beats1) (xlk []) (xlk []) (fun _ => none) 0 cX7_beats1 Rt 195 [some (.ref 0), some (.int C), some (.int (nI i)), some (.int (nI j)), none, none] [] (U) := by
        refine xcount (n) (fun j => (∀ v, v < j → lqP U i v = false) → xGo WM 6 (xlk fldX7) (xlk calX7_beats1) (xlk []) (xlk []) (fun _ => none) 0 cX7_beats1 Rt 195 [some (.ref 0), some (.int C), some (.int (nI i)), some (.int (nI j)), none, none] [] (U)) (fun j hj ihj hH => ?_)
        have hcj := hle j hj
        have f0 : 0 ≤ nI j := nI_pos' (by omega)
        have f1 : nI j + 1 = nI (j + 1) := nI_1 j
        have f2 : tn (nI j) = j := tn_nI (by omega)
        refine xtoCs [(195, xPc (j < n ∧ (∀ v, v < (j + 1) → lqP U i v = false)) [some (.ref 0), some (.int C), some (.int (nI i)), some (.int (nI (j + 1))), none, none] (U)), (259, xPc (True) [some (.ref 0), some (.int C), some (.int (nI i)), none, none, none] (pm3 n (i + 1) T2))] (xcs_cons (fun q => ihj q.1 q.2) (xcs_cons (fun _ => h259) xcs_nil)) 36 (fun cf hcf => ?_)
        have k195 : cf 195 = some (xPc (j < n ∧ (∀ v, v < (j + 1) → lqP U i v = false)) [some (.ref 0), some (.int C), some (.int (nI i)), some (.int (nI (j + 1))), none, none] (U)) := (hcf 195).trans rfl
        have k259 : cf 259 = some (xPc (True) [some (.ref 0), some (.int C), some (.int (nI i)), none, none, none] (pm3 n (i + 1) T2)) := (hcf 259).trans rfl
        have kn : ∀ pc, ¬ pc = 195 → ¬ pc = 259 → cf pc = none := fun pc h0 h1 => by rw [hcf, xlk_c, if_neg h0, xlk_c, if_neg h1, xlk_n]
        clear hcf
        simp (config := {maxSteps := 4000000, implicitDefEqProofs := false}) only [xwp_2, xwp_0, xwp_1, xws_s, xdd_o, xld_0, xld_s, xs1_0, xs1_1, xs1_s, xs2_0, xs2_1, xs2_s, xlg_n, xlg_i, xlg_r, xlg_z, xlg_l, xf4_0, xf4_1, xf4_2, xf4_3, xgo_e, xcmp_eq, xcmp_ne, xcmp_lt, xcmp_ge, xcmp_gt, xcmp_le, xfg_0, xfg_1, xfg_2, xfg_3, xfg_4, xpop_0, xpop_s, xsw_n, xsw_c, xtb_n, xtb_c, xenp_n, xenp_i, xenp_r, xenp_z, xenp_l, xrep_0, xrep_s, Nat.reduceSub, true_and, and_true, cat_i, cat_r, Nat.reduceAdd, Nat.reduceLT, Nat.reduceLeDiff, Nat.reduceEqDiff, xnc, Int.reduceAdd, Int.reduceSub, Int.reduceNeg, Int.reduceLE, Int.reduceLT, Int.reduceToNat, ↓reduceIte, List.length_cons, List.length_nil, xlc0, xlc1, ite_10, i10, i01, i0_2, i0_3, i0_4, i0_6, i0_7, i0_8, i0_49, i0_10, or_true, true_or, or_false, false_or, not_false_eq_true, not_true_eq_false, xnt, xI_g, eq_self, xI_2, xJ_1, false_and, and_false, obM_t, rMi, vp_tn, tn_def, lgc, nI8, nI6, nI160, nI20, nI401, nI49, aM_6, aM_7, aM_8, aM_9, aM_10, aM_11, aM_12, aM_13, aM_14, aM_15, aM_16, aM_17, aM_18, aM_19, aM_20, aM_21, aM_22, aM_23, aM_24, aM_25, aM_26, aM_27, aM_28, aM_29, aM_30, aM_31, aM_38, aM_39, aM_40, aM_41, aM_42, aM_43, aM_44, aM_45, aM_46, aM_47, lM_6, lM_7, lM_8, lM_9, lM_10, lM_11, lM_12, lM_13, lM_14, lM_15, lM_16, lM_17, lM_18, lM_19, lM_20, lM_21, lM_22, lM_23, lM_24, lM_25, lM_26, lM_27, lM_28, lM_29, lM_30, lM_31, lM_38, lM_39, lM_40, lM_41, lM_42, lM_43, lM_44, lM_45, lM_46, lM_47, dX7_beats1_0, st_iconst, dX7_beats1_1, st_istore_n, dX7_beats1_2, st_iload_n, dX7_beats1_3, st_aload_n, dX7_beats1_4, st_getfield, fl_X7_126, dX7_beats1_7, st_if_icmp, dX7_beats1_10, dX7_beats1_11, dX7_beats1_12, st_invokevirtual, dX7_beats1_15, st_iinc, dX7_beats1_18, st_goto, dX7_beats1_21, dX7_beats1_22, dX7_beats1_25, dX7_beats1_26, dX7_beats1_27, dX7_beats1_28, dX7_beats1_29, dX7_beats1_30, dX7_beats1_31, dX7_beats1_34, dX7_beats1_37, dX7_beats1_38, dX7_beats1_39, dX7_beats1_42, dX7_beats1_43, dX7_beats1_44, fl_X7_114, dX7_beats1_47, dX7_beats1_48, dX7_beats1_49, dX7_beats1_50, dX7_beats1_53, dX7_beats1_54, dX7_beats1_57, dX7_beats1_58, st_iastore, dX7_beats1_59, dX7_beats1_60, dX7_beats1_61, dX7_beats1_64, dX7_beats1_67, dX7_beats1_68, st_istore, dX7_beats1_70, dX7_beats1_71, dX7_beats1_73, st_iload, dX7_beats1_75, dX7_beats1_76, dX7_beats1_79, dX7_beats1_80, fl_X7_38, dX7_beats1_83, dX7_beats1_85, st_iaload, dX7_beats1_86, dX7_beats1_87, dX7_beats1_90, dX7_beats1_91, dX7_beats1_92, dX7_beats1_95, dX7_beats1_96, dX7_beats1_98, dX7_beats1_101, dX7_beats1_104, dX7_beats1_106, st_ifCond, dX7_beats1_109, dX7_beats1_112, dX7_beats1_113, dX7_beats1_114, dX7_beats1_115, dX7_beats1_118, dX7_beats1_121, dX7_beats1_122, dX7_beats1_123, dX7_beats1_126, dX7_beats1_129, dX7_beats1_132, dX7_beats1_133, dX7_beats1_134, dX7_beats1_135, dX7_beats1_138, dX7_beats1_139, fl_X7_41, dX7_beats1_142, dX7_beats1_143, dX7_beats1_144, fl_X7_102, dX7_beats1_147, dX7_beats1_148, dX7_beats1_149, dX7_beats1_150, dX7_beats1_153, dX7_beats1_156, dX7_beats1_157, dX7_beats1_160, dX7_beats1_161, dX7_beats1_162, dX7_beats1_163, dX7_beats1_164, dX7_beats1_167, dX7_beats1_170, dX7_beats1_171, dX7_beats1_174, dX7_beats1_175, dX7_beats1_176, dX7_beats1_177, dX7_beats1_180, dX7_beats1_181, fl_X7_32, dX7_beats1_184, dX7_beats1_185, dX7_beats1_186, dX7_beats1_187, dX7_beats1_190, dX7_beats1_193, dX7_beats1_194, dX7_beats1_195, dX7_beats1_196, dX7_beats1_197, dX7_beats1_200, dX7_beats1_203, dX7_beats1_204, dX7_beats1_207, dX7_beats1_208, dX7_beats1_209, dX7_beats1_210, dX7_beats1_213, dX7_beats1_214, dX7_beats1_215, dX7_beats1_218, dX7_beats1_219, dX7_beats1_220, dX7_beats1_221, dX7_beats1_224, dX7_beats1_225, dX7_beats1_226, dX7_beats1_229, dX7_beats1_232, dX7_beats1_233, dX7_beats1_234, dX7_beats1_235, dX7_beats1_238, dX7_beats1_241, dX7_beats1_244, dX7_beats1_245, dX7_beats1_246, dX7_beats1_247, dX7_beats1_250, dX7_beats1_253, dX7_beats1_256, dX7_beats1_259, dX7_beats1_262, dX7_beats1_265, dX7_beats1_266, st_ireturn, c_X7_beats1_264, pX7_does_e, fX7_does_e, Option.toList_some, Option.toList_none, List.cons_append, List.nil_append, c_X7_beats1_268, pX7_holdsStill_e, fX7_holdsStill_e, c_X7_beats1_271, pX7_nextOf_e, fX7_nextOf_e, c_X7_beats1_274, pX7_takes_e, fX7_takes_e, c_X7_beats1_277, pX7_gives_e, fX7_gives_e, c_X7_beats1_280, pX7_takesOn_e, fX7_takesOn_e, c_X7_beats1_146, pX7_isBeside_e, fX7_isBeside_e, ofI_0, ofJ_1, ofI_m1, ofI_5, hp1, hp2, hp3, xwp_s, xcu_s, xcu_n, xPc_e, xsub_0, xsub_n, xsub_s, k195, k259, kn, hkU, hcj, e0, e1, e2, f0, f1, f2, h6i]
        have h6j : ¬ n ≤ j → j < 6 ∧ j < n := fun h => by omega
        have cont : lqP U i j = false → (∀ v, v < j + 1 → lqP U i v = false) := fun h2 => xall_s hH h2
        have e5 : lqP U i j = decide (U.1 11 j = 5 ∧ bsM (U.1 13 j) (U.1 13 i) = 1 ∧ tkMb U i j = true) := rfl
        have fin : n ≤ j → U = pm3 n (i + 1) T2 := fun h => by
          rw [hst, p3B, xfs_no (fun v hv => hH v (by omega)), if_neg (Nat.lt_irrefl _)]
        have stop : j < n → lqP U i j = true → toM U i j = pm3 n (i + 1) T2 := fun h1 h2 => by
          rw [hst, p3B, xfs_at h1 h2 hH, if_pos h1]
        clear hst hH ihj h259 hcj hR
        generalize bsM (U.1 13 j) (U.1 13 i) = bs at *
        generalize tkMb U i j = tk at *
        generalize lqP U i j = lq at *
        generalize pm3 n (i + 1) T2 = Z at *
        generalize toM U i j = Y at *
        grind (splits := 40)
      exact hin 0 (Nat.zero_le _) (fun v hv => by omega)
    refine xtoCs [(162, xPc (i < n) [some (.ref 0), some (.int C), some (.int (nI (i + 1))), none, none, none] (pm3 n (i + 1) T2)), (259, xPc (i < n) [some (.ref 0), some (.int C), some (.int (nI i)), none, none, none] (pm3 n (i + 1) T2)), (195, xPc (i < n ∧ ¬ ((pm3 n i T2).1 44 i = 1 ∨ (pm3 n i T2).1 11 i = 5)) [some (.ref 0), some (.int C), some (.int (nI i)), some (.int (nI 0)), none, none] (pm3 n i T2))] (xcs_cons (ih) (xcs_cons (h259) (xcs_cons (fun q => h195 q.1 q.2) xcs_nil))) 22 (fun cf hcf => ?_)
    have k162 : cf 162 = some (xPc (i < n) [some (.ref 0), some (.int C), some (.int (nI (i + 1))), none, none, none] (pm3 n (i + 1) T2)) := (hcf 162).trans rfl
    have k259 : cf 259 = some (xPc (i < n) [some (.ref 0), some (.int C), some (.int (nI i)), none, none, none] (pm3 n (i + 1) T2)) := (hcf 259).trans rfl
    have k195 : cf 195 = some (xPc (i < n ∧ ¬ ((pm3 n i T2).1 44 i = 1 ∨ (pm3 n i T2).1 11 i = 5)) [some (.ref 0), some (.int C), some (.int (nI i)), some (.int (nI 0)), none, none] (pm3 n i T2)) := (hcf 195).trans rfl
    have kn : ∀ pc, ¬ pc = 162 → ¬ pc = 259 → ¬ pc = 195 → cf pc = none := fun pc h0 h1 h2 => by rw [hcf, xlk_c, if_neg h0, xlk_c, if_neg h1, xlk_c, if_neg h2, xlk_n]
    clear hcf
    simp (config := {maxSteps := 4000000, implicitDefEqProofs := false}) only [xwp_2, xwp_0, xwp_1, xws_s, xdd_o, xld_0, xld_s, xs1_0, xs1_1, xs1_s, xs2_0, xs2_1, xs2_s, xlg_n, xlg_i, xlg_r, xlg_z, xlg_l, xf4_0, xf4_1, xf4_2, xf4_3, xgo_e, xcmp_eq, xcmp_ne, xcmp_lt, xcmp_ge, xcmp_gt, xcmp_le, xfg_0, xfg_1, xfg_2, xfg_3, xfg_4, xpop_0, xpop_s, xsw_n, xsw_c, xtb_n, xtb_c, xenp_n, xenp_i, xenp_r, xenp_z, xenp_l, xrep_0, xrep_s, Nat.reduceSub, true_and, and_true, cat_i, cat_r, Nat.reduceAdd, Nat.reduceLT, Nat.reduceLeDiff, Nat.reduceEqDiff, xnc, Int.reduceAdd, Int.reduceSub, Int.reduceNeg, Int.reduceLE, Int.reduceLT, Int.reduceToNat, ↓reduceIte, List.length_cons, List.length_nil, xlc0, xlc1, ite_10, i10, i01, i0_2, i0_3, i0_4, i0_6, i0_7, i0_8, i0_49, i0_10, or_true, true_or, or_false, false_or, not_false_eq_true, not_true_eq_false, xnt, xI_g, eq_self, xI_2, xJ_1, false_and, and_false, obM_t, rMi, vp_tn, tn_def, lgc, nI8, nI6, nI160, nI20, nI401, nI49, aM_6, aM_7, aM_8, aM_9, aM_10, aM_11, aM_12, aM_13, aM_14, aM_15, aM_16, aM_17, aM_18, aM_19, aM_20, aM_21, aM_22, aM_23, aM_24, aM_25, aM_26, aM_27, aM_28, aM_29, aM_30, aM_31, aM_38, aM_39, aM_40, aM_41, aM_42, aM_43, aM_44, aM_45, aM_46, aM_47, lM_6, lM_7, lM_8, lM_9, lM_10, lM_11, lM_12, lM_13, lM_14, lM_15, lM_16, lM_17, lM_18, lM_19, lM_20, lM_21, lM_22, lM_23, lM_24, lM_25, lM_26, lM_27, lM_28, lM_29, lM_30, lM_31, lM_38, lM_39, lM_40, lM_41, lM_42, lM_43, lM_44, lM_45, lM_46, lM_47, dX7_beats1_0, st_iconst, dX7_beats1_1, st_istore_n, dX7_beats1_2, st_iload_n, dX7_beats1_3, st_aload_n, dX7_beats1_4, st_getfield, fl_X7_126, dX7_beats1_7, st_if_icmp, dX7_beats1_10, dX7_beats1_11, dX7_beats1_12, st_invokevirtual, dX7_beats1_15, st_iinc, dX7_beats1_18, st_goto, dX7_beats1_21, dX7_beats1_22, dX7_beats1_25, dX7_beats1_26, dX7_beats1_27, dX7_beats1_28, dX7_beats1_29, dX7_beats1_30, dX7_beats1_31, dX7_beats1_34, dX7_beats1_37, dX7_beats1_38, dX7_beats1_39, dX7_beats1_42, dX7_beats1_43, dX7_beats1_44, fl_X7_114, dX7_beats1_47, dX7_beats1_48, dX7_beats1_49, dX7_beats1_50, dX7_beats1_53, dX7_beats1_54, dX7_beats1_57, dX7_beats1_58, st_iastore, dX7_beats1_59, dX7_beats1_60, dX7_beats1_61, dX7_beats1_64, dX7_beats1_67, dX7_beats1_68, st_istore, dX7_beats1_70, dX7_beats1_71, dX7_beats1_73, st_iload, dX7_beats1_75, dX7_beats1_76, dX7_beats1_79, dX7_beats1_80, fl_X7_38, dX7_beats1_83, dX7_beats1_85, st_iaload, dX7_beats1_86, dX7_beats1_87, dX7_beats1_90, dX7_beats1_91, dX7_beats1_92, dX7_beats1_95, dX7_beats1_96, dX7_beats1_98, dX7_beats1_101, dX7_beats1_104, dX7_beats1_106, st_ifCond, dX7_beats1_109, dX7_beats1_112, dX7_beats1_113, dX7_beats1_114, dX7_beats1_115, dX7_beats1_118, dX7_beats1_121, dX7_beats1_122, dX7_beats1_123, dX7_beats1_126, dX7_beats1_129, dX7_beats1_132, dX7_beats1_133, dX7_beats1_134, dX7_beats1_135, dX7_beats1_138, dX7_beats1_139, fl_X7_41, dX7_beats1_142, dX7_beats1_143, dX7_beats1_144, fl_X7_102, dX7_beats1_147, dX7_beats1_148, dX7_beats1_149, dX7_beats1_150, dX7_beats1_153, dX7_beats1_156, dX7_beats1_157, dX7_beats1_160, dX7_beats1_161, dX7_beats1_162, dX7_beats1_163, dX7_beats1_164, dX7_beats1_167, dX7_beats1_170, dX7_beats1_171, dX7_beats1_174, dX7_beats1_175, dX7_beats1_176, dX7_beats1_177, dX7_beats1_180, dX7_beats1_181, fl_X7_32, dX7_beats1_184, dX7_beats1_185, dX7_beats1_186, dX7_beats1_187, dX7_beats1_190, dX7_beats1_193, dX7_beats1_194, dX7_beats1_195, dX7_beats1_196, dX7_beats1_197, dX7_beats1_200, dX7_beats1_203, dX7_beats1_204, dX7_beats1_207, dX7_beats1_208, dX7_beats1_209, dX7_beats1_210, dX7_beats1_213, dX7_beats1_214, dX7_beats1_215, dX7_beats1_218, dX7_beats1_219, dX7_beats1_220, dX7_beats1_221, dX7_beats1_224, dX7_beats1_225, dX7_beats1_226, dX7_beats1_229, dX7_beats1_232, dX7_beats1_233, dX7_beats1_234, dX7_beats1_235, dX7_beats1_238, dX7_beats1_241, dX7_beats1_244, dX7_beats1_245, dX7_beats1_246, dX7_beats1_247, dX7_beats1_250, dX7_beats1_253, dX7_beats1_256, dX7_beats1_259, dX7_beats1_262, dX7_beats1_265, dX7_beats1_266, st_ireturn, c_X7_beats1_264, pX7_does_e, fX7_does_e, Option.toList_some, Option.toList_none, List.cons_append, List.nil_append, c_X7_beats1_268, pX7_holdsStill_e, fX7_holdsStill_e, c_X7_beats1_271, pX7_nextOf_e, fX7_nextOf_e, c_X7_beats1_274, pX7_takes_e, fX7_takes_e, c_X7_beats1_277, pX7_gives_e, fX7_gives_e, c_X7_beats1_280, pX7_takesOn_e, fX7_takesOn_e, c_X7_beats1_146, pX7_isBeside_e, fX7_isBeside_e, ofI_0, ofJ_1, ofI_m1, ofI_5, hp1, hp2, hp3, xwp_s, xcu_s, xcu_n, xPc_e, xsub_0, xsub_n, xsub_s, k162, k259, k195, kn, hkU, hc, e0, e2]
    have hend : n ≤ i → pm3 n i T2 = pm3 n n T2 := fun h => by rw [show i = n by omega]
    have hskip : ((pm3 n i T2).1 44 i = 1 ∨ (pm3 n i T2).1 11 i = 5) → pm3 n i T2 = pm3 n (i + 1) T2 := fun h => by rw [hs3, p3M, if_pos h]
    have h6 : ¬ n ≤ i → i < 6 ∧ i < n := fun h => by omega
    simp only [hR, nI_00]
    clear hR hs3 h259 h195 ih hc
    generalize pm3 n (i + 1) T2 = Z at *
    generalize pm3 n i T2 = U at *
    generalize pm3 n n T2 = Y at *
    grind (splits := 40)
  have h29 : ∀ i, i ≤ n → xGo WM 6 (xlk fldX7) (xlk calX7_beats1) (xlk []) (xlk []) (fun _ => none) 0 cX7_beats1 Rt 29 [some (.ref 0), some (.int (cm2 i T1)), some (.int (nI i)), none, none, none] [] (pm2 i T1) := by
    refine xcount (n) (fun i => xGo WM 6 (xlk fldX7) (xlk calX7_beats1) (xlk []) (xlk []) (fun _ => none) 0 cX7_beats1 Rt 29 [some (.ref 0), some (.int (cm2 i T1)), some (.int (nI i)), none, none, none] [] (pm2 i T1)) (fun i hi ih => ?_)
    have e0 : 0 ≤ nI i := nI_pos' (by omega)
    have e1 : nI i + 1 = nI (i + 1) := nI_1 i
    have e2 : tn (nI i) = i := tn_nI (by omega)
    have hc := hle i hi
    have hkU := hk2 i
    have h73 : ∀ c f : Int32, i < n → cm2 i T1 = c → nxM (pm2 i T1) (nI i) = f → ¬ f = -1 → xGo WM 6 (xlk fldX7) (xlk calX7_beats1) (xlk []) (xlk []) (fun _ => none) 0 cX7_beats1 Rt 73 [some (.ref 0), some (.int c), some (.int (nI i)), some (.int f), some (.int 1), some (.int (nI 0))] [] (xI (pm2 i T1) 44 i 1) := fun c f hlt' hcc hff hno => by
      have hsS : pm2 (i + 1) T1 = p2B (xI (pm2 i T1) 44 i 1) i (tn f) := by rw [pm2_s, p2M, hff, if_neg hno]
      have hsC : cm2 (i + 1) T1 = if fsV (pm2 i T1) i i = 0 then c else c + 1 := by rw [cm2_s, c2M, hff, if_neg hno, hcc]
      have hf := nx_r (σ := pm2 i T1) (x := nI i) (by rw [hkU, hn]; exact hwk) (by rw [hkU, hn, e2]; exact hlt')
      rw [hff, hkU, hn] at hf
      have hf := hf hno
      have hf0 := hf.1
      have hf6 : tn f < 6 := by omega
      have h6i : i < 6 := by omega
      have hfe : fsV (xI (pm2 i T1) 44 i 1) i i = fsV (pm2 i T1) i i := rfl
      rw [← hfe] at hsC
      have hU44 : ∀ b, (xI (pm2 i T1) 44 i 1).1 0 b = (pm2 i T1).1 0 b := fun b => rfl
      clear hfe
      generalize xI (pm2 i T1) 44 i 1 = U at *
      have hb2B : p2B U i (tn f) = if tkMb U i (tn f) = true ∧ gvMb U (tn f) = true then xI (toM U i (tn f)) 14 i (U.1 40 (tn f)) else U := rfl
      have h40 : (toM U i (tn f)).1 40 (tn f) = U.1 40 (tn f) := toM_o (by omega)
      have h104 : xGo WM 6 (xlk fldX7) (xlk calX7_beats1) (xlk []) (xlk []) (fun _ => none) 0 cX7_beats1 Rt 104 [some (.ref 0), some (.int c), some (.int (nI i)), some (.int f), some (.int (fsV U i i)), none] [] U := by
        refine xtoC [(29, xPc (i < n) [some (.ref 0), some (.int (cm2 (i + 1) T1)), some (.int (nI (i + 1))), none, none, none] (pm2 (i + 1) T1))] (xcs_cons (ih) xcs_nil) 32 (fun cf hcf => ?_)
        have k29 : cf 29 = some (xPc (i < n) [some (.ref 0), some (.int (cm2 (i + 1) T1)), some (.int (nI (i + 1))), none, none, none] (pm2 (i + 1) T1)) := (hcf 29).trans rfl
        have kn : ∀ pc, ¬ pc = 29 → cf pc = none := fun pc h0 => by rw [hcf, xlk_c, if_neg h0, xlk_n]
        clear hcf
        simp (config := {maxSteps := 4000000, implicitDefEqProofs := false}) only [xwp_2, xwp_0, xwp_1, xws_s, xdd_o, xld_0, xld_s, xs1_0, xs1_1, xs1_s, xs2_0, xs2_1, xs2_s, xlg_n, xlg_i, xlg_r, xlg_z, xlg_l, xf4_0, xf4_1, xf4_2, xf4_3, xgo_e, xcmp_eq, xcmp_ne, xcmp_lt, xcmp_ge, xcmp_gt, xcmp_le, xfg_0, xfg_1, xfg_2, xfg_3, xfg_4, xpop_0, xpop_s, xsw_n, xsw_c, xtb_n, xtb_c, xenp_n, xenp_i, xenp_r, xenp_z, xenp_l, xrep_0, xrep_s, Nat.reduceSub, true_and, and_true, cat_i, cat_r, Nat.reduceAdd, Nat.reduceLT, Nat.reduceLeDiff, Nat.reduceEqDiff, xnc, Int.reduceAdd, Int.reduceSub, Int.reduceNeg, Int.reduceLE, Int.reduceLT, Int.reduceToNat, ↓reduceIte, List.length_cons, List.length_nil, xlc0, xlc1, ite_10, i10, i01, i0_2, i0_3, i0_4, i0_6, i0_7, i0_8, i0_49, i0_10, or_true, true_or, or_false, false_or, not_false_eq_true, not_true_eq_false, xnt, xI_g, eq_self, xI_2, xJ_1, false_and, and_false, obM_t, rMi, vp_tn, tn_def, lgc, nI8, nI6, nI160, nI20, nI401, nI49, aM_6, aM_7, aM_8, aM_9, aM_10, aM_11, aM_12, aM_13, aM_14, aM_15, aM_16, aM_17, aM_18, aM_19, aM_20, aM_21, aM_22, aM_23, aM_24, aM_25, aM_26, aM_27, aM_28, aM_29, aM_30, aM_31, aM_38, aM_39, aM_40, aM_41, aM_42, aM_43, aM_44, aM_45, aM_46, aM_47, lM_6, lM_7, lM_8, lM_9, lM_10, lM_11, lM_12, lM_13, lM_14, lM_15, lM_16, lM_17, lM_18, lM_19, lM_20, lM_21, lM_22, lM_23, lM_24, lM_25, lM_26, lM_27, lM_28, lM_29, lM_30, lM_31, lM_38, lM_39, lM_40, lM_41, lM_42, lM_43, lM_44, lM_45, lM_46, lM_47, dX7_beats1_0, st_iconst, dX7_beats1_1, st_istore_n, dX7_beats1_2, st_iload_n, dX7_beats1_3, st_aload_n, dX7_beats1_4, st_getfield, fl_X7_126, dX7_beats1_7, st_if_icmp, dX7_beats1_10, dX7_beats1_11, dX7_beats1_12, st_invokevirtual, dX7_beats1_15, st_iinc, dX7_beats1_18, st_goto, dX7_beats1_21, dX7_beats1_22, dX7_beats1_25, dX7_beats1_26, dX7_beats1_27, dX7_beats1_28, dX7_beats1_29, dX7_beats1_30, dX7_beats1_31, dX7_beats1_34, dX7_beats1_37, dX7_beats1_38, dX7_beats1_39, dX7_beats1_42, dX7_beats1_43, dX7_beats1_44, fl_X7_114, dX7_beats1_47, dX7_beats1_48, dX7_beats1_49, dX7_beats1_50, dX7_beats1_53, dX7_beats1_54, dX7_beats1_57, dX7_beats1_58, st_iastore, dX7_beats1_59, dX7_beats1_60, dX7_beats1_61, dX7_beats1_64, dX7_beats1_67, dX7_beats1_68, st_istore, dX7_beats1_70, dX7_beats1_71, dX7_beats1_73, st_iload, dX7_beats1_75, dX7_beats1_76, dX7_beats1_79, dX7_beats1_80, fl_X7_38, dX7_beats1_83, dX7_beats1_85, st_iaload, dX7_beats1_86, dX7_beats1_87, dX7_beats1_90, dX7_beats1_91, dX7_beats1_92, dX7_beats1_95, dX7_beats1_96, dX7_beats1_98, dX7_beats1_101, dX7_beats1_104, dX7_beats1_106, st_ifCond, dX7_beats1_109, dX7_beats1_112, dX7_beats1_113, dX7_beats1_114, dX7_beats1_115, dX7_beats1_118, dX7_beats1_121, dX7_beats1_122, dX7_beats1_123, dX7_beats1_126, dX7_beats1_129, dX7_beats1_132, dX7_beats1_133, dX7_beats1_134, dX7_beats1_135, dX7_beats1_138, dX7_beats1_139, fl_X7_41, dX7_beats1_142, dX7_beats1_143, dX7_beats1_144, fl_X7_102, dX7_beats1_147, dX7_beats1_148, dX7_beats1_149, dX7_beats1_150, dX7_beats1_153, dX7_beats1_156, dX7_beats1_157, dX7_beats1_160, dX7_beats1_161, dX7_beats1_162, dX7_beats1_163, dX7_beats1_164, dX7_beats1_167, dX7_beats1_170, dX7_beats1_171, dX7_beats1_174, dX7_beats1_175, dX7_beats1_176, dX7_beats1_177, dX7_beats1_180, dX7_beats1_181, fl_X7_32, dX7_beats1_184, dX7_beats1_185, dX7_beats1_186, dX7_beats1_187, dX7_beats1_190, dX7_beats1_193, dX7_beats1_194, dX7_beats1_195, dX7_beats1_196, dX7_beats1_197, dX7_beats1_200, dX7_beats1_203, dX7_beats1_204, dX7_beats1_207, dX7_beats1_208, dX7_beats1_209, dX7_beats1_210, dX7_beats1_213, dX7_beats1_214, dX7_beats1_215, dX7_beats1_218, dX7_beats1_219, dX7_beats1_220, dX7_beats1_221, dX7_beats1_224, dX7_beats1_225, dX7_beats1_226, dX7_beats1_229, dX7_beats1_232, dX7_beats1_233, dX7_beats1_234, dX7_beats1_235, dX7_beats1_238, dX7_beats1_241, dX7_beats1_244, dX7_beats1_245, dX7_beats1_246, dX7_beats1_247, dX7_beats1_250, dX7_beats1_253, dX7_beats1_256, dX7_beats1_259, dX7_beats1_262, dX7_beats1_265, dX7_beats1_266, st_ireturn, c_X7_beats1_264, pX7_does_e, fX7_does_e, Option.toList_some, Option.toList_none, List.cons_append, List.nil_append, c_X7_beats1_268, pX7_holdsStill_e, fX7_holdsStill_e, c_X7_beats1_271, pX7_nextOf_e, fX7_nextOf_e, c_X7_beats1_274, pX7_takes_e, fX7_takes_e, c_X7_beats1_277, pX7_gives_e, fX7_gives_e, c_X7_beats1_280, pX7_takesOn_e, fX7_takesOn_e, c_X7_beats1_146, pX7_isBeside_e, fX7_isBeside_e, ofI_0, ofJ_1, ofI_m1, ofI_5, hp1, hp2, hp3, xwp_s, xcu_s, xcu_n, xPc_e, xsub_0, xsub_n, xsub_s, k29, kn, e0, e1, e2, hf0, hf6, h6i, h40, hlt']
        rw [hsC, hsS, hb2B]
        clear hsC hsS hb2B ih h40 hR
        generalize fsV U i i = fv at *
        generalize tkMb U i (tn f) = tk at *
        generalize gvMb U (tn f) = gv at *
        generalize xI (toM U i (tn f)) 14 i (U.1 40 (tn f)) = Z at *
        grind (splits := 40)
      have hin : ∀ j, j ≤ i → xGo WM 6 (xlk fldX7) (xlk calX7_beats1) (xlk []) (xlk []) (fun _ => none) 0 cX7_beats1 Rt 73 [some (.ref 0), some (.int c), some (.int (nI i)), some (.int f), some (.int (fsV U i j)), some (.int (nI j))] [] (U) := by
        refine xcount (i) (fun j => xGo WM 6 (xlk fldX7) (xlk calX7_beats1) (xlk []) (xlk []) (fun _ => none) 0 cX7_beats1 Rt 73 [some (.ref 0), some (.int c), some (.int (nI i)), some (.int f), some (.int (fsV U i j)), some (.int (nI j))] [] (U)) (fun j hj ihj => ?_)
        have hcj : nI i ≤ nI j ↔ i ≤ j := nI_leI (by omega) (by omega)
        have f0 : 0 ≤ nI j := nI_pos' (by omega)
        have f1 : nI j + 1 = nI (j + 1) := nI_1 j
        have f2 : tn (nI j) = j := tn_nI (by omega)
        refine xtoCs [(73, xPc (j < i) [some (.ref 0), some (.int c), some (.int (nI i)), some (.int f), some (.int (fsV U i (j + 1))), some (.int (nI (j + 1)))] (U)), (104, xPc (True) [some (.ref 0), some (.int c), some (.int (nI i)), some (.int f), some (.int (fsV U i i)), none] (U))] (xcs_cons (ihj) (xcs_cons (fun _ => h104) xcs_nil)) 20 (fun cf hcf => ?_)
        have k73 : cf 73 = some (xPc (j < i) [some (.ref 0), some (.int c), some (.int (nI i)), some (.int f), some (.int (fsV U i (j + 1))), some (.int (nI (j + 1)))] (U)) := (hcf 73).trans rfl
        have k104 : cf 104 = some (xPc (True) [some (.ref 0), some (.int c), some (.int (nI i)), some (.int f), some (.int (fsV U i i)), none] (U)) := (hcf 104).trans rfl
        have kn : ∀ pc, ¬ pc = 73 → ¬ pc = 104 → cf pc = none := fun pc h0 h1 => by rw [hcf, xlk_c, if_neg h0, xlk_c, if_neg h1, xlk_n]
        clear hcf
        simp (config := {maxSteps := 4000000, implicitDefEqProofs := false}) only [xwp_2, xwp_0, xwp_1, xws_s, xdd_o, xld_0, xld_s, xs1_0, xs1_1, xs1_s, xs2_0, xs2_1, xs2_s, xlg_n, xlg_i, xlg_r, xlg_z, xlg_l, xf4_0, xf4_1, xf4_2, xf4_3, xgo_e, xcmp_eq, xcmp_ne, xcmp_lt, xcmp_ge, xcmp_gt, xcmp_le, xfg_0, xfg_1, xfg_2, xfg_3, xfg_4, xpop_0, xpop_s, xsw_n, xsw_c, xtb_n, xtb_c, xenp_n, xenp_i, xenp_r, xenp_z, xenp_l, xrep_0, xrep_s, Nat.reduceSub, true_and, and_true, cat_i, cat_r, Nat.reduceAdd, Nat.reduceLT, Nat.reduceLeDiff, Nat.reduceEqDiff, xnc, Int.reduceAdd, Int.reduceSub, Int.reduceNeg, Int.reduceLE, Int.reduceLT, Int.reduceToNat, ↓reduceIte, List.length_cons, List.length_nil, xlc0, xlc1, ite_10, i10, i01, i0_2, i0_3, i0_4, i0_6, i0_7, i0_8, i0_49, i0_10, or_true, true_or, or_false, false_or, not_false_eq_true, not_true_eq_false, xnt, xI_g, eq_self, xI_2, xJ_1, false_and, and_false, obM_t, rMi, vp_tn, tn_def, lgc, nI8, nI6, nI160, nI20, nI401, nI49, aM_6, aM_7, aM_8, aM_9, aM_10, aM_11, aM_12, aM_13, aM_14, aM_15, aM_16, aM_17, aM_18, aM_19, aM_20, aM_21, aM_22, aM_23, aM_24, aM_25, aM_26, aM_27, aM_28, aM_29, aM_30, aM_31, aM_38, aM_39, aM_40, aM_41, aM_42, aM_43, aM_44, aM_45, aM_46, aM_47, lM_6, lM_7, lM_8, lM_9, lM_10, lM_11, lM_12, lM_13, lM_14, lM_15, lM_16, lM_17, lM_18, lM_19, lM_20, lM_21, lM_22, lM_23, lM_24, lM_25, lM_26, lM_27, lM_28, lM_29, lM_30, lM_31, lM_38, lM_39, lM_40, lM_41, lM_42, lM_43, lM_44, lM_45, lM_46, lM_47, dX7_beats1_0, st_iconst, dX7_beats1_1, st_istore_n, dX7_beats1_2, st_iload_n, dX7_beats1_3, st_aload_n, dX7_beats1_4, st_getfield, fl_X7_126, dX7_beats1_7, st_if_icmp, dX7_beats1_10, dX7_beats1_11, dX7_beats1_12, st_invokevirtual, dX7_beats1_15, st_iinc, dX7_beats1_18, st_goto, dX7_beats1_21, dX7_beats1_22, dX7_beats1_25, dX7_beats1_26, dX7_beats1_27, dX7_beats1_28, dX7_beats1_29, dX7_beats1_30, dX7_beats1_31, dX7_beats1_34, dX7_beats1_37, dX7_beats1_38, dX7_beats1_39, dX7_beats1_42, dX7_beats1_43, dX7_beats1_44, fl_X7_114, dX7_beats1_47, dX7_beats1_48, dX7_beats1_49, dX7_beats1_50, dX7_beats1_53, dX7_beats1_54, dX7_beats1_57, dX7_beats1_58, st_iastore, dX7_beats1_59, dX7_beats1_60, dX7_beats1_61, dX7_beats1_64, dX7_beats1_67, dX7_beats1_68, st_istore, dX7_beats1_70, dX7_beats1_71, dX7_beats1_73, st_iload, dX7_beats1_75, dX7_beats1_76, dX7_beats1_79, dX7_beats1_80, fl_X7_38, dX7_beats1_83, dX7_beats1_85, st_iaload, dX7_beats1_86, dX7_beats1_87, dX7_beats1_90, dX7_beats1_91, dX7_beats1_92, dX7_beats1_95, dX7_beats1_96, dX7_beats1_98, dX7_beats1_101, dX7_beats1_104, dX7_beats1_106, st_ifCond, dX7_beats1_109, dX7_beats1_112, dX7_beats1_113, dX7_beats1_114, dX7_beats1_115, dX7_beats1_118, dX7_beats1_121, dX7_beats1_122, dX7_beats1_123, dX7_beats1_126, dX7_beats1_129, dX7_beats1_132, dX7_beats1_133, dX7_beats1_134, dX7_beats1_135, dX7_beats1_138, dX7_beats1_139, fl_X7_41, dX7_beats1_142, dX7_beats1_143, dX7_beats1_144, fl_X7_102, dX7_beats1_147, dX7_beats1_148, dX7_beats1_149, dX7_beats1_150, dX7_beats1_153, dX7_beats1_156, dX7_beats1_157, dX7_beats1_160, dX7_beats1_161, dX7_beats1_162, dX7_beats1_163, dX7_beats1_164, dX7_beats1_167, dX7_beats1_170, dX7_beats1_171, dX7_beats1_174, dX7_beats1_175, dX7_beats1_176, dX7_beats1_177, dX7_beats1_180, dX7_beats1_181, fl_X7_32, dX7_beats1_184, dX7_beats1_185, dX7_beats1_186, dX7_beats1_187, dX7_beats1_190, dX7_beats1_193, dX7_beats1_194, dX7_beats1_195, dX7_beats1_196, dX7_beats1_197, dX7_beats1_200, dX7_beats1_203, dX7_beats1_204, dX7_beats1_207, dX7_beats1_208, dX7_beats1_209, dX7_beats1_210, dX7_beats1_213, dX7_beats1_214, dX7_beats1_215, dX7_beats1_218, dX7_beats1_219, dX7_beats1_220, dX7_beats1_221, dX7_beats1_224, dX7_beats1_225, dX7_beats1_226, dX7_beats1_229, dX7_beats1_232, dX7_beats1_233, dX7_beats1_234, dX7_beats1_235, dX7_beats1_238, dX7_beats1_241, dX7_beats1_244, dX7_beats1_245, dX7_beats1_246, dX7_beats1_247, dX7_beats1_250, dX7_beats1_253, dX7_beats1_256, dX7_beats1_259, dX7_beats1_262, dX7_beats1_265, dX7_beats1_266, st_ireturn, c_X7_beats1_264, pX7_does_e, fX7_does_e, Option.toList_some, Option.toList_none, List.cons_append, List.nil_append, c_X7_beats1_268, pX7_holdsStill_e, fX7_holdsStill_e, c_X7_beats1_271, pX7_nextOf_e, fX7_nextOf_e, c_X7_beats1_274, pX7_takes_e, fX7_takes_e, c_X7_beats1_277, pX7_gives_e, fX7_gives_e, c_X7_beats1_280, pX7_takesOn_e, fX7_takesOn_e, c_X7_beats1_146, pX7_isBeside_e, fX7_isBeside_e, ofI_0, ofJ_1, ofI_m1, ofI_5, hp1, hp2, hp3, xwp_s, xcu_s, xcu_n, xPc_e, xsub_0, xsub_n, xsub_s, k73, k104, kn, hcj, f0, f1, f2, e0, e2, h6i]
        have h6j : ¬ i ≤ j → j < 6 ∧ j < i := fun h => by omega
        have e5 : fsV U i (j + 1) = if fsP U i j = true then 0 else fsV U i j := by
          unfold fsV
          rw [xany]
          cases xany (fsP U i) j <;> cases fsP U i j <;> rfl
        have e6 : fsP U i j = decide (U.1 13 j = U.1 13 i) := rfl
        have hend : i ≤ j → fsV U i j = fsV U i i := fun h => by rw [show j = i by omega]
        rw [e5, e6]
        clear hR h104 ihj hcj
        generalize fsV U i j = fv at *
        grind (splits := 40)
      have z1 : fsV U i 0 = 1 := rfl
      have hin0 := hin 0 (Nat.zero_le _)
      rw [z1] at hin0
      exact hin0
    refine xtoCs [(29, xPc (i < n) [some (.ref 0), some (.int (cm2 (i + 1) T1)), some (.int (nI (i + 1))), none, none, none] (pm2 (i + 1) T1)), (162, xPc (n ≤ i) [some (.ref 0), some (.int C), some (.int (nI 0)), none, none, none] (pm3 n 0 T2)), (73, xPc (i < n ∧ ¬ nxM (pm2 i T1) (nI i) = -1) [some (.ref 0), some (.int (cm2 i T1)), some (.int (nI i)), some (.int (nxM (pm2 i T1) (nI i))), some (.int 1), some (.int (nI 0))] (xI (pm2 i T1) 44 i 1))] (xcs_cons (ih) (xcs_cons (fun _ => h162 0 (Nat.zero_le _)) (xcs_cons (fun q => h73 _ _ q.1 rfl rfl q.2) xcs_nil))) 36 (fun cf hcf => ?_)
    have k29 : cf 29 = some (xPc (i < n) [some (.ref 0), some (.int (cm2 (i + 1) T1)), some (.int (nI (i + 1))), none, none, none] (pm2 (i + 1) T1)) := (hcf 29).trans rfl
    have k162 : cf 162 = some (xPc (n ≤ i) [some (.ref 0), some (.int C), some (.int (nI 0)), none, none, none] (pm3 n 0 T2)) := (hcf 162).trans rfl
    have k73 : cf 73 = some (xPc (i < n ∧ ¬ nxM (pm2 i T1) (nI i) = -1) [some (.ref 0), some (.int (cm2 i T1)), some (.int (nI i)), some (.int (nxM (pm2 i T1) (nI i))), some (.int 1), some (.int (nI 0))] (xI (pm2 i T1) 44 i 1)) := (hcf 73).trans rfl
    have kn : ∀ pc, ¬ pc = 29 → ¬ pc = 162 → ¬ pc = 73 → cf pc = none := fun pc h0 h1 h2 => by rw [hcf, xlk_c, if_neg h0, xlk_c, if_neg h1, xlk_c, if_neg h2, xlk_n]
    clear hcf
    simp (config := {maxSteps := 4000000, implicitDefEqProofs := false}) only [xwp_2, xwp_0, xwp_1, xws_s, xdd_o, xld_0, xld_s, xs1_0, xs1_1, xs1_s, xs2_0, xs2_1, xs2_s, xlg_n, xlg_i, xlg_r, xlg_z, xlg_l, xf4_0, xf4_1, xf4_2, xf4_3, xgo_e, xcmp_eq, xcmp_ne, xcmp_lt, xcmp_ge, xcmp_gt, xcmp_le, xfg_0, xfg_1, xfg_2, xfg_3, xfg_4, xpop_0, xpop_s, xsw_n, xsw_c, xtb_n, xtb_c, xenp_n, xenp_i, xenp_r, xenp_z, xenp_l, xrep_0, xrep_s, Nat.reduceSub, true_and, and_true, cat_i, cat_r, Nat.reduceAdd, Nat.reduceLT, Nat.reduceLeDiff, Nat.reduceEqDiff, xnc, Int.reduceAdd, Int.reduceSub, Int.reduceNeg, Int.reduceLE, Int.reduceLT, Int.reduceToNat, ↓reduceIte, List.length_cons, List.length_nil, xlc0, xlc1, ite_10, i10, i01, i0_2, i0_3, i0_4, i0_6, i0_7, i0_8, i0_49, i0_10, or_true, true_or, or_false, false_or, not_false_eq_true, not_true_eq_false, xnt, xI_g, eq_self, xI_2, xJ_1, false_and, and_false, obM_t, rMi, vp_tn, tn_def, lgc, nI8, nI6, nI160, nI20, nI401, nI49, aM_6, aM_7, aM_8, aM_9, aM_10, aM_11, aM_12, aM_13, aM_14, aM_15, aM_16, aM_17, aM_18, aM_19, aM_20, aM_21, aM_22, aM_23, aM_24, aM_25, aM_26, aM_27, aM_28, aM_29, aM_30, aM_31, aM_38, aM_39, aM_40, aM_41, aM_42, aM_43, aM_44, aM_45, aM_46, aM_47, lM_6, lM_7, lM_8, lM_9, lM_10, lM_11, lM_12, lM_13, lM_14, lM_15, lM_16, lM_17, lM_18, lM_19, lM_20, lM_21, lM_22, lM_23, lM_24, lM_25, lM_26, lM_27, lM_28, lM_29, lM_30, lM_31, lM_38, lM_39, lM_40, lM_41, lM_42, lM_43, lM_44, lM_45, lM_46, lM_47, dX7_beats1_0, st_iconst, dX7_beats1_1, st_istore_n, dX7_beats1_2, st_iload_n, dX7_beats1_3, st_aload_n, dX7_beats1_4, st_getfield, fl_X7_126, dX7_beats1_7, st_if_icmp, dX7_beats1_10, dX7_beats1_11, dX7_beats1_12, st_invokevirtual, dX7_beats1_15, st_iinc, dX7_beats1_18, st_goto, dX7_beats1_21, dX7_beats1_22, dX7_beats1_25, dX7_beats1_26, dX7_beats1_27, dX7_beats1_28, dX7_beats1_29, dX7_beats1_30, dX7_beats1_31, dX7_beats1_34, dX7_beats1_37, dX7_beats1_38, dX7_beats1_39, dX7_beats1_42, dX7_beats1_43, dX7_beats1_44, fl_X7_114, dX7_beats1_47, dX7_beats1_48, dX7_beats1_49, dX7_beats1_50, dX7_beats1_53, dX7_beats1_54, dX7_beats1_57, dX7_beats1_58, st_iastore, dX7_beats1_59, dX7_beats1_60, dX7_beats1_61, dX7_beats1_64, dX7_beats1_67, dX7_beats1_68, st_istore, dX7_beats1_70, dX7_beats1_71, dX7_beats1_73, st_iload, dX7_beats1_75, dX7_beats1_76, dX7_beats1_79, dX7_beats1_80, fl_X7_38, dX7_beats1_83, dX7_beats1_85, st_iaload, dX7_beats1_86, dX7_beats1_87, dX7_beats1_90, dX7_beats1_91, dX7_beats1_92, dX7_beats1_95, dX7_beats1_96, dX7_beats1_98, dX7_beats1_101, dX7_beats1_104, dX7_beats1_106, st_ifCond, dX7_beats1_109, dX7_beats1_112, dX7_beats1_113, dX7_beats1_114, dX7_beats1_115, dX7_beats1_118, dX7_beats1_121, dX7_beats1_122, dX7_beats1_123, dX7_beats1_126, dX7_beats1_129, dX7_beats1_132, dX7_beats1_133, dX7_beats1_134, dX7_beats1_135, dX7_beats1_138, dX7_beats1_139, fl_X7_41, dX7_beats1_142, dX7_beats1_143, dX7_beats1_144, fl_X7_102, dX7_beats1_147, dX7_beats1_148, dX7_beats1_149, dX7_beats1_150, dX7_beats1_153, dX7_beats1_156, dX7_beats1_157, dX7_beats1_160, dX7_beats1_161, dX7_beats1_162, dX7_beats1_163, dX7_beats1_164, dX7_beats1_167, dX7_beats1_170, dX7_beats1_171, dX7_beats1_174, dX7_beats1_175, dX7_beats1_176, dX7_beats1_177, dX7_beats1_180, dX7_beats1_181, fl_X7_32, dX7_beats1_184, dX7_beats1_185, dX7_beats1_186, dX7_beats1_187, dX7_beats1_190, dX7_beats1_193, dX7_beats1_194, dX7_beats1_195, dX7_beats1_196, dX7_beats1_197, dX7_beats1_200, dX7_beats1_203, dX7_beats1_204, dX7_beats1_207, dX7_beats1_208, dX7_beats1_209, dX7_beats1_210, dX7_beats1_213, dX7_beats1_214, dX7_beats1_215, dX7_beats1_218, dX7_beats1_219, dX7_beats1_220, dX7_beats1_221, dX7_beats1_224, dX7_beats1_225, dX7_beats1_226, dX7_beats1_229, dX7_beats1_232, dX7_beats1_233, dX7_beats1_234, dX7_beats1_235, dX7_beats1_238, dX7_beats1_241, dX7_beats1_244, dX7_beats1_245, dX7_beats1_246, dX7_beats1_247, dX7_beats1_250, dX7_beats1_253, dX7_beats1_256, dX7_beats1_259, dX7_beats1_262, dX7_beats1_265, dX7_beats1_266, st_ireturn, c_X7_beats1_264, pX7_does_e, fX7_does_e, Option.toList_some, Option.toList_none, List.cons_append, List.nil_append, c_X7_beats1_268, pX7_holdsStill_e, fX7_holdsStill_e, c_X7_beats1_271, pX7_nextOf_e, fX7_nextOf_e, c_X7_beats1_274, pX7_takes_e, fX7_takes_e, c_X7_beats1_277, pX7_gives_e, fX7_gives_e, c_X7_beats1_280, pX7_takesOn_e, fX7_takesOn_e, c_X7_beats1_146, pX7_isBeside_e, fX7_isBeside_e, ofI_0, ofJ_1, ofI_m1, ofI_5, hp1, hp2, hp3, xwp_s, xcu_s, xcu_n, xPc_e, xsub_0, xsub_n, xsub_s, k29, k162, k73, kn, hkU, hc, e0, e1, e2, hp1, hp2]
    have hend : n ≤ i → cm2 i T1 = C ∧ hsM (pm2 i T1) = T2 := fun h => by
      have hi' : i = n := by omega
      rw [hi']
      exact ⟨hC, hb2.symm⟩
    have h6 : ¬ n ≤ i → i < 6 ∧ i < n ∧ nI i < σ.1 0 1 := fun h => ⟨by omega, by omega, hlt i (by omega)⟩
    have hsk : nxM (pm2 i T1) (nI i) = -1 → pm2 (i + 1) T1 = xI (pm2 i T1) 44 i 0 ∧ cm2 (i + 1) T1 = cm2 i T1 := fun h => by
      rw [pm2_s, p2M, cm2_s, c2M, if_pos h, if_pos h]
      exact ⟨rfl, rfl⟩
    have z3 : pm3 n 0 T2 = T2 := rfl
    rw [z3]
    simp only [nI_00]
    clear hR h73 ih hc h162 hb1 hb2 hk1 hk2 hk3 hdy hp3 hle hlt z3
    generalize nxM (pm2 i T1) (nI i) = f at *
    generalize cm2 (i + 1) T1 = c1 at *
    generalize cm2 i T1 = c0 at *
    generalize pm2 (i + 1) T1 = Z at *
    generalize hsM (pm2 i T1) = H at *
    generalize pm2 i T1 = U at *
    grind (splits := 40)
  have h2 : ∀ i, i ≤ n → xGo WM 6 (xlk fldX7) (xlk calX7_beats1) (xlk []) (xlk []) (fun _ => none) 0 cX7_beats1 Rt 2 [some (.ref 0), some (.int (nI i)), none, none, none, none] [] (dm1 i σ) := by
    refine xcount (n) (fun i => xGo WM 6 (xlk fldX7) (xlk calX7_beats1) (xlk []) (xlk []) (fun _ => none) 0 cX7_beats1 Rt 2 [some (.ref 0), some (.int (nI i)), none, none, none, none] [] (dm1 i σ)) (fun i hi ih => ?_)
    have e0 : 0 ≤ nI i := nI_pos' (by omega)
    have e1 : nI i + 1 = nI (i + 1) := nI_1 i
    have e2 : tn (nI i) = i := tn_nI (by omega)
    have hc := hle i hi
    have hkU := hk1 i
    refine xtoCs [(2, xPc (i < n) [some (.ref 0), some (.int (nI (i + 1))), none, none, none, none] (dm1 (i + 1) σ)), (29, xPc (n ≤ i) [some (.ref 0), some (.int (cm2 0 T1)), some (.int (nI 0)), none, none, none] (pm2 0 T1))] (xcs_cons (ih) (xcs_cons (fun _ => h29 0 (Nat.zero_le _)) xcs_nil)) 18 (fun cf hcf => ?_)
    have k2 : cf 2 = some (xPc (i < n) [some (.ref 0), some (.int (nI (i + 1))), none, none, none, none] (dm1 (i + 1) σ)) := (hcf 2).trans rfl
    have k29 : cf 29 = some (xPc (n ≤ i) [some (.ref 0), some (.int (cm2 0 T1)), some (.int (nI 0)), none, none, none] (pm2 0 T1)) := (hcf 29).trans rfl
    have kn : ∀ pc, ¬ pc = 2 → ¬ pc = 29 → cf pc = none := fun pc h0 h1 => by rw [hcf, xlk_c, if_neg h0, xlk_c, if_neg h1, xlk_n]
    clear hcf
    simp (config := {maxSteps := 4000000, implicitDefEqProofs := false}) only [xwp_2, xwp_0, xwp_1, xws_s, xdd_o, xld_0, xld_s, xs1_0, xs1_1, xs1_s, xs2_0, xs2_1, xs2_s, xlg_n, xlg_i, xlg_r, xlg_z, xlg_l, xf4_0, xf4_1, xf4_2, xf4_3, xgo_e, xcmp_eq, xcmp_ne, xcmp_lt, xcmp_ge, xcmp_gt, xcmp_le, xfg_0, xfg_1, xfg_2, xfg_3, xfg_4, xpop_0, xpop_s, xsw_n, xsw_c, xtb_n, xtb_c, xenp_n, xenp_i, xenp_r, xenp_z, xenp_l, xrep_0, xrep_s, Nat.reduceSub, true_and, and_true, cat_i, cat_r, Nat.reduceAdd, Nat.reduceLT, Nat.reduceLeDiff, Nat.reduceEqDiff, xnc, Int.reduceAdd, Int.reduceSub, Int.reduceNeg, Int.reduceLE, Int.reduceLT, Int.reduceToNat, ↓reduceIte, List.length_cons, List.length_nil, xlc0, xlc1, ite_10, i10, i01, i0_2, i0_3, i0_4, i0_6, i0_7, i0_8, i0_49, i0_10, or_true, true_or, or_false, false_or, not_false_eq_true, not_true_eq_false, xnt, xI_g, eq_self, xI_2, xJ_1, false_and, and_false, obM_t, rMi, vp_tn, tn_def, lgc, nI8, nI6, nI160, nI20, nI401, nI49, aM_6, aM_7, aM_8, aM_9, aM_10, aM_11, aM_12, aM_13, aM_14, aM_15, aM_16, aM_17, aM_18, aM_19, aM_20, aM_21, aM_22, aM_23, aM_24, aM_25, aM_26, aM_27, aM_28, aM_29, aM_30, aM_31, aM_38, aM_39, aM_40, aM_41, aM_42, aM_43, aM_44, aM_45, aM_46, aM_47, lM_6, lM_7, lM_8, lM_9, lM_10, lM_11, lM_12, lM_13, lM_14, lM_15, lM_16, lM_17, lM_18, lM_19, lM_20, lM_21, lM_22, lM_23, lM_24, lM_25, lM_26, lM_27, lM_28, lM_29, lM_30, lM_31, lM_38, lM_39, lM_40, lM_41, lM_42, lM_43, lM_44, lM_45, lM_46, lM_47, dX7_beats1_0, st_iconst, dX7_beats1_1, st_istore_n, dX7_beats1_2, st_iload_n, dX7_beats1_3, st_aload_n, dX7_beats1_4, st_getfield, fl_X7_126, dX7_beats1_7, st_if_icmp, dX7_beats1_10, dX7_beats1_11, dX7_beats1_12, st_invokevirtual, dX7_beats1_15, st_iinc, dX7_beats1_18, st_goto, dX7_beats1_21, dX7_beats1_22, dX7_beats1_25, dX7_beats1_26, dX7_beats1_27, dX7_beats1_28, dX7_beats1_29, dX7_beats1_30, dX7_beats1_31, dX7_beats1_34, dX7_beats1_37, dX7_beats1_38, dX7_beats1_39, dX7_beats1_42, dX7_beats1_43, dX7_beats1_44, fl_X7_114, dX7_beats1_47, dX7_beats1_48, dX7_beats1_49, dX7_beats1_50, dX7_beats1_53, dX7_beats1_54, dX7_beats1_57, dX7_beats1_58, st_iastore, dX7_beats1_59, dX7_beats1_60, dX7_beats1_61, dX7_beats1_64, dX7_beats1_67, dX7_beats1_68, st_istore, dX7_beats1_70, dX7_beats1_71, dX7_beats1_73, st_iload, dX7_beats1_75, dX7_beats1_76, dX7_beats1_79, dX7_beats1_80, fl_X7_38, dX7_beats1_83, dX7_beats1_85, st_iaload, dX7_beats1_86, dX7_beats1_87, dX7_beats1_90, dX7_beats1_91, dX7_beats1_92, dX7_beats1_95, dX7_beats1_96, dX7_beats1_98, dX7_beats1_101, dX7_beats1_104, dX7_beats1_106, st_ifCond, dX7_beats1_109, dX7_beats1_112, dX7_beats1_113, dX7_beats1_114, dX7_beats1_115, dX7_beats1_118, dX7_beats1_121, dX7_beats1_122, dX7_beats1_123, dX7_beats1_126, dX7_beats1_129, dX7_beats1_132, dX7_beats1_133, dX7_beats1_134, dX7_beats1_135, dX7_beats1_138, dX7_beats1_139, fl_X7_41, dX7_beats1_142, dX7_beats1_143, dX7_beats1_144, fl_X7_102, dX7_beats1_147, dX7_beats1_148, dX7_beats1_149, dX7_beats1_150, dX7_beats1_153, dX7_beats1_156, dX7_beats1_157, dX7_beats1_160, dX7_beats1_161, dX7_beats1_162, dX7_beats1_163, dX7_beats1_164, dX7_beats1_167, dX7_beats1_170, dX7_beats1_171, dX7_beats1_174, dX7_beats1_175, dX7_beats1_176, dX7_beats1_177, dX7_beats1_180, dX7_beats1_181, fl_X7_32, dX7_beats1_184, dX7_beats1_185, dX7_beats1_186, dX7_beats1_187, dX7_beats1_190, dX7_beats1_193, dX7_beats1_194, dX7_beats1_195, dX7_beats1_196, dX7_beats1_197, dX7_beats1_200, dX7_beats1_203, dX7_beats1_204, dX7_beats1_207, dX7_beats1_208, dX7_beats1_209, dX7_beats1_210, dX7_beats1_213, dX7_beats1_214, dX7_beats1_215, dX7_beats1_218, dX7_beats1_219, dX7_beats1_220, dX7_beats1_221, dX7_beats1_224, dX7_beats1_225, dX7_beats1_226, dX7_beats1_229, dX7_beats1_232, dX7_beats1_233, dX7_beats1_234, dX7_beats1_235, dX7_beats1_238, dX7_beats1_241, dX7_beats1_244, dX7_beats1_245, dX7_beats1_246, dX7_beats1_247, dX7_beats1_250, dX7_beats1_253, dX7_beats1_256, dX7_beats1_259, dX7_beats1_262, dX7_beats1_265, dX7_beats1_266, st_ireturn, c_X7_beats1_264, pX7_does_e, fX7_does_e, Option.toList_some, Option.toList_none, List.cons_append, List.nil_append, c_X7_beats1_268, pX7_holdsStill_e, fX7_holdsStill_e, c_X7_beats1_271, pX7_nextOf_e, fX7_nextOf_e, c_X7_beats1_274, pX7_takes_e, fX7_takes_e, c_X7_beats1_277, pX7_gives_e, fX7_gives_e, c_X7_beats1_280, pX7_takesOn_e, fX7_takesOn_e, c_X7_beats1_146, pX7_isBeside_e, fX7_isBeside_e, ofI_0, ofJ_1, ofI_m1, ofI_5, hp1, hp2, hp3, xwp_s, xcu_s, xcu_n, xPc_e, xsub_0, xsub_n, xsub_s, k2, k29, kn, hkU, hc, e0, e1, e2, hp1, hp2]
    have h6 : ¬ n ≤ i → i < 6 ∧ i < n ∧ dyP (dm1 i σ) i := fun h => ⟨by omega, by omega, hdy i i (Nat.le_refl _) (by omega)⟩
    have hend : n ≤ i → hsM (dm1 i σ) = T1 := fun h => by
      have hi' : i = n := by omega
      rw [hi', ← hb1]
    have z3 : pm2 0 T1 = T1 := rfl
    have z4 : cm2 0 T1 = 0 := rfl
    have z5 := dm1_s (i := i) (σ := σ)
    rw [z3, z4, z5]
    simp only [nI_00]
    clear hR ih hc h162 h29 hb1 hb2 hk1 hk2 hk3 hdy hp3 hle hlt z3 z4 z5
    generalize hsM (dm1 i σ) = H at *
    generalize doM (dm1 i σ) i = Z at *
    generalize dm1 i σ = U at *
    grind (splits := 40)
  refine xtoN [(2, xPc (True) [some (.ref 0), some (.int (nI 0)), none, none, none, none] (dm1 0 σ))] (xcs_cons (fun _ => h2 0 (Nat.zero_le _)) xcs_nil) 10 ?_
  simp -implicitDefEqProofs only [xwp_2, xwp_0, xwp_1, xws_s, xdd_o, xld_0, xld_s, xs1_0, xs1_1, xs1_s, xs2_0, xs2_1, xs2_s, xlg_n, xlg_i, xlg_r, xlg_z, xlg_l, xf4_0, xf4_1, xf4_2, xf4_3, xgo_e, xcmp_eq, xcmp_ne, xcmp_lt, xcmp_ge, xcmp_gt, xcmp_le, xfg_0, xfg_1, xfg_2, xfg_3, xfg_4, xpop_0, xpop_s, xsw_n, xsw_c, xtb_n, xtb_c, xenp_n, xenp_i, xenp_r, xenp_z, xenp_l, xrep_0, xrep_s, Nat.reduceSub, true_and, and_true, cat_i, cat_r, Nat.reduceAdd, Nat.reduceLT, Nat.reduceLeDiff, Nat.reduceEqDiff, xnc, Int.reduceAdd, Int.reduceSub, Int.reduceNeg, Int.reduceLE, Int.reduceLT, Int.reduceToNat, ↓reduceIte, List.length_cons, List.length_nil, xlc0, xlc1, ite_10, i10, i01, i0_2, i0_3, i0_4, i0_6, i0_7, i0_8, i0_49, i0_10, or_true, true_or, or_false, false_or, not_false_eq_true, not_true_eq_false, xnt, xI_g, eq_self, xI_2, xJ_1, false_and, and_false, obM_t, rMi, vp_tn, tn_def, lgc, nI8, nI6, nI160, nI20, nI401, nI49, aM_6, aM_7, aM_8, aM_9, aM_10, aM_11, aM_12, aM_13, aM_14, aM_15, aM_16, aM_17, aM_18, aM_19, aM_20, aM_21, aM_22, aM_23, aM_24, aM_25, aM_26, aM_27, aM_28, aM_29, aM_30, aM_31, aM_38, aM_39, aM_40, aM_41, aM_42, aM_43, aM_44, aM_45, aM_46, aM_47, lM_6, lM_7, lM_8, lM_9, lM_10, lM_11, lM_12, lM_13, lM_14, lM_15, lM_16, lM_17, lM_18, lM_19, lM_20, lM_21, lM_22, lM_23, lM_24, lM_25, lM_26, lM_27, lM_28, lM_29, lM_30, lM_31, lM_38, lM_39, lM_40, lM_41, lM_42, lM_43, lM_44, lM_45, lM_46, lM_47, dX7_beats1_0, st_iconst, dX7_beats1_1, st_istore_n, dX7_beats1_2, st_iload_n, dX7_beats1_3, st_aload_n, dX7_beats1_4, st_getfield, fl_X7_126, dX7_beats1_7, st_if_icmp, dX7_beats1_10, dX7_beats1_11, dX7_beats1_12, st_invokevirtual, dX7_beats1_15, st_iinc, dX7_beats1_18, st_goto, dX7_beats1_21, dX7_beats1_22, dX7_beats1_25, dX7_beats1_26, dX7_beats1_27, dX7_beats1_28, dX7_beats1_29, dX7_beats1_30, dX7_beats1_31, dX7_beats1_34, dX7_beats1_37, dX7_beats1_38, dX7_beats1_39, dX7_beats1_42, dX7_beats1_43, dX7_beats1_44, fl_X7_114, dX7_beats1_47, dX7_beats1_48, dX7_beats1_49, dX7_beats1_50, dX7_beats1_53, dX7_beats1_54, dX7_beats1_57, dX7_beats1_58, st_iastore, dX7_beats1_59, dX7_beats1_60, dX7_beats1_61, dX7_beats1_64, dX7_beats1_67, dX7_beats1_68, st_istore, dX7_beats1_70, dX7_beats1_71, dX7_beats1_73, st_iload, dX7_beats1_75, dX7_beats1_76, dX7_beats1_79, dX7_beats1_80, fl_X7_38, dX7_beats1_83, dX7_beats1_85, st_iaload, dX7_beats1_86, dX7_beats1_87, dX7_beats1_90, dX7_beats1_91, dX7_beats1_92, dX7_beats1_95, dX7_beats1_96, dX7_beats1_98, dX7_beats1_101, dX7_beats1_104, dX7_beats1_106, st_ifCond, dX7_beats1_109, dX7_beats1_112, dX7_beats1_113, dX7_beats1_114, dX7_beats1_115, dX7_beats1_118, dX7_beats1_121, dX7_beats1_122, dX7_beats1_123, dX7_beats1_126, dX7_beats1_129, dX7_beats1_132, dX7_beats1_133, dX7_beats1_134, dX7_beats1_135, dX7_beats1_138, dX7_beats1_139, fl_X7_41, dX7_beats1_142, dX7_beats1_143, dX7_beats1_144, fl_X7_102, dX7_beats1_147, dX7_beats1_148, dX7_beats1_149, dX7_beats1_150, dX7_beats1_153, dX7_beats1_156, dX7_beats1_157, dX7_beats1_160, dX7_beats1_161, dX7_beats1_162, dX7_beats1_163, dX7_beats1_164, dX7_beats1_167, dX7_beats1_170, dX7_beats1_171, dX7_beats1_174, dX7_beats1_175, dX7_beats1_176, dX7_beats1_177, dX7_beats1_180, dX7_beats1_181, fl_X7_32, dX7_beats1_184, dX7_beats1_185, dX7_beats1_186, dX7_beats1_187, dX7_beats1_190, dX7_beats1_193, dX7_beats1_194, dX7_beats1_195, dX7_beats1_196, dX7_beats1_197, dX7_beats1_200, dX7_beats1_203, dX7_beats1_204, dX7_beats1_207, dX7_beats1_208, dX7_beats1_209, dX7_beats1_210, dX7_beats1_213, dX7_beats1_214, dX7_beats1_215, dX7_beats1_218, dX7_beats1_219, dX7_beats1_220, dX7_beats1_221, dX7_beats1_224, dX7_beats1_225, dX7_beats1_226, dX7_beats1_229, dX7_beats1_232, dX7_beats1_233, dX7_beats1_234, dX7_beats1_235, dX7_beats1_238, dX7_beats1_241, dX7_beats1_244, dX7_beats1_245, dX7_beats1_246, dX7_beats1_247, dX7_beats1_250, dX7_beats1_253, dX7_beats1_256, dX7_beats1_259, dX7_beats1_262, dX7_beats1_265, dX7_beats1_266, st_ireturn, c_X7_beats1_264, pX7_does_e, fX7_does_e, Option.toList_some, Option.toList_none, List.cons_append, List.nil_append, c_X7_beats1_268, pX7_holdsStill_e, fX7_holdsStill_e, c_X7_beats1_271, pX7_nextOf_e, fX7_nextOf_e, c_X7_beats1_274, pX7_takes_e, fX7_takes_e, c_X7_beats1_277, pX7_gives_e, fX7_gives_e, c_X7_beats1_280, pX7_takesOn_e, fX7_takesOn_e, c_X7_beats1_146, pX7_isBeside_e, fX7_isBeside_e, ofI_0, ofJ_1, ofI_m1, ofI_5, hp1, hp2, hp3, xwp_L, xlk_c, xlk_n, xcu_s, xcu_n, xPc_e, xsub_0, xsub_n, xsub_s, nI_00, dm1_0]
theorem rX7_beats1 : ∀ as σ, pX7_beats1 as σ → ∃ K as', as = .ref K :: as' ∧ xob WM K 7 := by
  rintro as σ ⟨rfl, hpre⟩
  exact ⟨_, _, rfl, by first | exact hpre | exact hpre.1 | exact obT hpre | exact obT hpre.1 | exact obS hpre | exact obS hpre.1 | exact obM | exact ob6 | exact ob2 | exact ob0⟩
