theorem i1_6 : ((1 : Int32) ≤ 6) = True := eq_true (by decide)
theorem i0_1' : ((0 : Int32) ≤ 1) = True := eq_true (by decide)
def aloS (σ : xS) (x : Int32) : xS := xI (cpW (thX σ 0) 220 (whoK 200 x)) 200 2 1
def aloX (σ : xS) (n x y : Int32) : Int32 × xS := if ¬ (0 ≤ x ∧ x < σ.1 100 2) then noX σ (-1) else if ¬ (0 ≤ y ∧ y ≤ 4) then noX σ (-5) else if ¬ (0 ≤ n ∧ n ≤ 400) then noX σ (-6) else (tldX (gbsX 200 n (aloS σ x)) (whoK 200 0) (y + 1), gbsX 200 n (aloS σ x))
theorem aloS_k {σ : xS} {x : Int32} : (aloS σ x).1 200 2 = 1 := xI_s
theorem aloS_f {σ : xS} {x : Int32} : xI (cpW (thX σ 0) 220 (whoK 200 x)) 200 2 1 = aloS σ x := rfl
def pX6_alone (as : List Value) (σ : xS) : Prop := ∃ (n : Int32) (x : Int32) (y : Int32), as = [.ref 0, .int n, .int x, .int y] ∧ ((0 ≤ σ.1 100 2) ∧ (σ.1 100 2 ≤ 6) ∧ (σ.1 100 1 ≤ 8))
def fX6_alone (as : List Value) (σ : xS) : Option Value × xS := match as with
  | [.ref 0, .int n, .int x, .int y] => (some (.int (aloX σ n x y).1), (aloX σ n x y).2)
  | _ => (none, σ)
theorem pX6_alone_e {n : Int32} {x : Int32} {y : Int32} {σ : xS} : pX6_alone [.ref 0, .int n, .int x, .int y] σ = ((0 ≤ σ.1 100 2) ∧ (σ.1 100 2 ≤ 6) ∧ (σ.1 100 1 ≤ 8)) := propext ⟨fun h => by obtain ⟨n, x, y, e, h⟩ := h; cases e; exact h, fun h => ⟨n, x, y, rfl, h⟩⟩
theorem fX6_alone_e {n : Int32} {x : Int32} {y : Int32} {σ : xS} : fX6_alone [.ref 0, .int n, .int x, .int y] σ = (some (.int (aloX σ n x y).1), (aloX σ n x y).2) := rfl
def calX6_alone : List (Nat × xCall) := [(204, (false, 4, pX6_whyNotTold, fX6_whyNotTold)), (66, (false, 2, pX6_refuse, fX6_refuse)), (207, (false, 2, pX6_think, fX6_think)), (230, (false, 2, pX4_keepOnly, fX4_keepOnly)), (233, (false, 2, pX4_goBeats, fX4_goBeats)), (114, (false, 2, pX4_who, fX4_who)), (174, (false, 2, pX5_told, fX5_told))]
theorem c_X6_alone_204 : xlk calX6_alone 204 = some (false, 4, pX6_whyNotTold, fX6_whyNotTold) := rfl
theorem c_X6_alone_66 : xlk calX6_alone 66 = some (false, 2, pX6_refuse, fX6_refuse) := rfl
theorem c_X6_alone_207 : xlk calX6_alone 207 = some (false, 2, pX6_think, fX6_think) := rfl
theorem c_X6_alone_230 : xlk calX6_alone 230 = some (false, 2, pX4_keepOnly, fX4_keepOnly) := rfl
theorem c_X6_alone_233 : xlk calX6_alone 233 = some (false, 2, pX4_goBeats, fX4_goBeats) := rfl
theorem c_X6_alone_114 : xlk calX6_alone 114 = some (false, 2, pX4_who, fX4_who) := rfl
theorem c_X6_alone_174 : xlk calX6_alone 174 = some (false, 2, pX5_told, fX5_told) := rfl
set_option maxHeartbeats 4000000 in
set_option maxRecDepth 100000 in
theorem mX6_alone : xMet WX yX6_alone cX6_alone 5 (some .int) 7 pX6_alone fX6_alone := by
  refine xMet_of (fld := xlk fldX6) (cal := xlk calX6_alone) (ks := xlk []) (gs := xlk []) (ro := fun _ => none) 0 (by decide) WX_nd rfl fldX6_ok xKs_nil xGs_nil (Or.inr rfl) (xcal_cons (xCk_V mX6_whyNotTold 6 (by decide) (by decide) (by decide) rfl (fun as σ h _ => rX6_whyNotTold as σ h) w_X6_204 ⟨by decide, by decide, by decide +kernel⟩) (xcal_cons (xCk_V mX6_refuse 6 (by decide) (by decide) (by decide) rfl (fun as σ h _ => rX6_refuse as σ h) w_X6_66 ⟨by decide, by decide, by decide +kernel⟩) (xcal_cons (xCk_V mX6_think 6 (by decide) (by decide) (by decide) rfl (fun as σ h _ => rX6_think as σ h) w_X6_207 ⟨by decide, by decide, by decide +kernel⟩) (xcal_cons (xCk_V mX4_keepOnly 4 (by decide) (by decide) (by decide) rfl (fun as σ h _ => rX4_keepOnly as σ h) w_X6_230 ⟨by decide, by decide, by decide +kernel⟩) (xcal_cons (xCk_V mX4_goBeats 4 (by decide) (by decide) (by decide) rfl (fun as σ h _ => rX4_goBeats as σ h) w_X6_233 ⟨by decide, by decide, by decide +kernel⟩) (xcal_cons (xCk_V mX4_who 4 (by decide) (by decide) (by decide) rfl (fun as σ h _ => rX4_who as σ h) w_X6_114 ⟨by decide, by decide, by decide +kernel⟩) (xcal_cons (xCk_V mX5_told 5 (by decide) (by decide) (by decide) rfl (fun as σ h _ => rX5_told as σ h) w_X6_174 ⟨by decide, by decide, by decide +kernel⟩) xcal_nil))))))) ?_ ?_
  · rintro av σ ⟨n, x, y, rfl, hpre⟩
    exact Nat.le_of_ble_eq_true rfl
  rintro av σ ⟨n, x, y, rfl, ⟨hp1, hp2, hp3⟩⟩ Rt hR
  have hR2 := hR2_g (Rt := Rt) (F := aloX σ n x y) (fun r s' => by rw [hR, fX6_alone_e])
  refine xgo0 36 ?_
  simp (config := {maxSteps := 4000000, implicitDefEqProofs := false}) only [xwp_2, xwp_0, xwp_1, xws_s, xdd_o, xld_0, xld_s, xs1_0, xs1_1, xs1_s, xs2_0, xs2_1, xs2_s, xlg_n, xlg_i, xlg_r, xlg_z, xlg_l, xf4_0, xf4_1, xf4_2, xf4_3, xgo_e, xcmp_eq, xcmp_ne, xcmp_lt, xcmp_ge, xcmp_gt, xcmp_le, xfg_0, xfg_1, xfg_2, xfg_3, xfg_4, xpop_0, xpop_s, xsw_n, xsw_c, xtb_n, xtb_c, xenp_n, xenp_i, xenp_r, xenp_z, xenp_l, xrep_0, xrep_s, Nat.reduceSub, true_and, and_true, cat_i, cat_r, Nat.reduceAdd, Nat.reduceLT, Nat.reduceLeDiff, Nat.reduceEqDiff, xnc, Int.reduceAdd, Int.reduceSub, Int.reduceNeg, Int.reduceLE, Int.reduceLT, Int.reduceToNat, ↓reduceIte, List.length_cons, List.length_nil, xlc0, xlc1, ite_10, i10, i01, i0_2, i0_3, i0_4, i0_6, i0_7, i0_8, i0_49, i0_10, or_true, true_or, or_false, false_or, not_false_eq_true, not_true_eq_false, xnt, xI_g, eq_self, xI_2, xJ_1, false_and, and_false, obT_t, obS_t, ob6_t, ob2_t, ob0_t, kT1_t, kT2_t, kT3_t, kT4_t, lT1, lT2, rT6, rT7, rT8, rT9, rT1i, rT2i, rS2, kSe_t, lSe, r0_0, r0_1, r0_2, r0_3, r0_4, r0_5, r0_6, r0_7, r0_8, r0_9, r1_i, r2_4, r2_5, r4_4, a1_t, a3_t, a5_t, a6_t, a7_t, a8_t, l1, l3, l5, l6, l7, l8, T1, T2, T3, T4, nI8, nI6, nI160, nI20, nI401, nI49, ob5_t, ob1_t, vp_tn, tn_def, lgc, dX6_alone_0, st_aload_n, dX6_alone_1, st_iload_n, dX6_alone_2, dX6_alone_3, dX6_alone_4, st_invokevirtual, dX6_alone_7, st_istore, dX6_alone_9, st_iload, dX6_alone_11, st_ifCond, dX6_alone_14, dX6_alone_15, dX6_alone_17, dX6_alone_20, st_ireturn, dX6_alone_21, dX6_alone_22, st_iconst, dX6_alone_23, dX6_alone_26, st_pop, dX6_alone_27, dX6_alone_28, st_getfield, fl_X6_22, dX6_alone_31, dX6_alone_32, dX6_alone_35, dX6_alone_36, dX6_alone_39, dX6_alone_40, dX6_alone_43, dX6_alone_44, dX6_alone_45, dX6_alone_48, dX6_alone_49, dX6_alone_52, dX6_alone_53, dX6_alone_54, st_iadd, dX6_alone_55, dX6_alone_58, c_X6_alone_204, pX6_whyNotTold_e, fX6_whyNotTold_e, Option.toList_some, Option.toList_none, List.cons_append, List.nil_append, c_X6_alone_66, pX6_refuse_e, fX6_refuse_e, c_X6_alone_207, pX6_think_e, fX6_think_e, c_X6_alone_230, pX4_keepOnly_e, fX4_keepOnly_e, c_X6_alone_233, pX4_goBeats_e, fX4_goBeats_e, c_X6_alone_114, pX4_who_e, fX4_who_e, c_X6_alone_174, pX5_told_e, fX5_told_n, ofI_0, ofJ_1, aloS_f, aloS_k, i1_6, i0_1', hp1, hp2, hp3]
  clear hR
  simp only [hR2, aloX, noX, wntX]
  clear hR2
  grind (splits := 40)
theorem rX6_alone : ∀ as σ, pX6_alone as σ → ∃ K as', as = .ref K :: as' ∧ xob WX K 6 := by
  rintro as σ ⟨n, x, y, rfl, hpre⟩
  exact ⟨_, _, rfl, by first | exact hpre | exact hpre.1 | exact obT hpre | exact obT hpre.1 | exact obS hpre | exact obS hpre.1 | exact obM | exact ob6 | exact ob2 | exact ob0⟩
/-- rings: how all was behind each beat -/
def ryW (τ : xS) (i : Nat) : xS := xJ (xJ τ 7 i (pkX τ 200 0 3)) 8 i (pkX (xJ τ 7 i (pkX τ 200 0 3)) 200 3 3)
def ryS (σ : xS) : Nat → xS
  | 0 => thX σ 0
  | i + 1 => beatX 200 (ryW (ryS σ i) i)
def ryV (σ : xS) (i : Nat) : Int32 := xfirst (sbP (ryW (ryS σ i) i) i) i
def ryE (σ : xS) (i : Nat) : Bool := decide (¬ ryV σ i = -1)
def ryN (σ : xS) : Nat := xfs (ryE σ) 401
def ryl (σ : xS) : Nat → Option Value
  | 0 => none
  | i + 1 => some (.int (ryV σ i))
def rinX (σ : xS) (x : Int32) : Int32 × xS := if ¬ (0 ≤ x ∧ x ≤ 1) then noX σ (-5) else if ryN σ < 401 then ((if x = 0 then ryV σ (ryN σ) else nI (ryN σ) - ryV σ (ryN σ)), ryW (ryS σ (ryN σ)) (ryN σ)) else noX (ryS σ 401) (-6)
theorem ryS_k {σ : xS} : ∀ {i : Nat}, (ryS σ i).1 200 2 = σ.1 100 2
  | 0 => thX_k
  | i + 1 => by
    rw [ryS, beatX_B]
    exact ryS_k
theorem ryW_k {τ : xS} {i a b : Nat} : (ryW τ i).1 a b = τ.1 a b := rfl
theorem ryS_s {σ : xS} {i : Nat} : beatX 200 (ryW (ryS σ i) i) = ryS σ (i + 1) := rfl
theorem ryW_f {τ : xS} {i : Nat} : xJ (xJ τ 7 i (pkX τ 200 0 3)) 8 i (pkX (xJ τ 7 i (pkX τ 200 0 3)) 200 3 3) = ryW τ i := rfl
theorem ryl_s {σ : xS} {i : Nat} : ryl σ (i + 1) = some (.int (ryV σ i)) := rfl
theorem ryS_0 {σ : xS} : ryS σ 0 = thX σ 0 := rfl
theorem ryl_0 {σ : xS} : ryl σ 0 = none := rfl
theorem nI_00 : nI 0 = 0 := rfl
theorem i0_03 : ((0 : Int32) = 0 ∨ (0 : Int32) = 3) = True := eq_true (Or.inl rfl)
theorem i3_03 : ((3 : Int32) = 0 ∨ (3 : Int32) = 3) = True := eq_true (Or.inr rfl)
theorem xJ_1' {σ : xS} {K f a b : Nat} {v : Int64} : (xJ σ K f v).1 a b = σ.1 a b := rfl
def pX6_ring (as : List Value) (σ : xS) : Prop := ∃ (x : Int32), as = [.ref 0, .int x] ∧ ((0 ≤ σ.1 100 2) ∧ (σ.1 100 2 ≤ 6) ∧ (σ.1 100 1 ≤ 8))
def fX6_ring (as : List Value) (σ : xS) : Option Value × xS := match as with
  | [.ref 0, .int x] => (some (.int (rinX σ x).1), (rinX σ x).2)
  | _ => (none, σ)
theorem pX6_ring_e {x : Int32} {σ : xS} : pX6_ring [.ref 0, .int x] σ = ((0 ≤ σ.1 100 2) ∧ (σ.1 100 2 ≤ 6) ∧ (σ.1 100 1 ≤ 8)) := propext ⟨fun h => by obtain ⟨x, e, h⟩ := h; cases e; exact h, fun h => ⟨x, rfl, h⟩⟩
theorem fX6_ring_e {x : Int32} {σ : xS} : fX6_ring [.ref 0, .int x] σ = (some (.int (rinX σ x).1), (rinX σ x).2) := rfl
def calX6_ring : List (Nat × xCall) := [(110, (true, 2, pX6_isUpTo, fX6_isUpTo)), (66, (false, 2, pX6_refuse, fX6_refuse)), (207, (false, 2, pX6_think, fX6_think)), (224, (false, 2, pX4_packed, fX4_packed)), (227, (false, 2, pX6_sameBefore, fX6_sameBefore)), (219, (false, 1, pX4_goBeat, fX4_goBeat))]
theorem c_X6_ring_110 : xlk calX6_ring 110 = some (true, 2, pX6_isUpTo, fX6_isUpTo) := rfl
theorem c_X6_ring_66 : xlk calX6_ring 66 = some (false, 2, pX6_refuse, fX6_refuse) := rfl
theorem c_X6_ring_207 : xlk calX6_ring 207 = some (false, 2, pX6_think, fX6_think) := rfl
theorem c_X6_ring_224 : xlk calX6_ring 224 = some (false, 2, pX4_packed, fX4_packed) := rfl
theorem c_X6_ring_227 : xlk calX6_ring 227 = some (false, 2, pX6_sameBefore, fX6_sameBefore) := rfl
theorem c_X6_ring_219 : xlk calX6_ring 219 = some (false, 1, pX4_goBeat, fX4_goBeat) := rfl
set_option maxHeartbeats 4000000 in
set_option maxRecDepth 100000 in
theorem mX6_ring : xMet WX yX6_ring cX6_ring 4 (some .int) 7 pX6_ring fX6_ring := by
  refine xMet_of (fld := xlk fldX6) (cal := xlk calX6_ring) (ks := xlk []) (gs := xlk []) (ro := fun _ => none) 0 (by decide) WX_nd rfl fldX6_ok xKs_nil xGs_nil (Or.inr rfl) (xcal_cons (xCk_S mX6_isUpTo (by decide) (by decide) w_X6_110 ⟨by decide, by decide, by decide +kernel⟩) (xcal_cons (xCk_V mX6_refuse 6 (by decide) (by decide) (by decide) rfl (fun as σ h _ => rX6_refuse as σ h) w_X6_66 ⟨by decide, by decide, by decide +kernel⟩) (xcal_cons (xCk_V mX6_think 6 (by decide) (by decide) (by decide) rfl (fun as σ h _ => rX6_think as σ h) w_X6_207 ⟨by decide, by decide, by decide +kernel⟩) (xcal_cons (xCk_V mX4_packed 4 (by decide) (by decide) (by decide) rfl (fun as σ h _ => rX4_packed as σ h) w_X6_224 ⟨by decide, by decide, by decide +kernel⟩) (xcal_cons (xCk_V mX6_sameBefore 6 (by decide) (by decide) (by decide) rfl (fun as σ h _ => rX6_sameBefore as σ h) w_X6_227 ⟨by decide, by decide, by decide +kernel⟩) (xcal_cons (xCk_V mX4_goBeat 4 (by decide) (by decide) (by decide) rfl (fun as σ h _ => rX4_goBeat as σ h) w_X6_219 ⟨by decide, by decide, by decide +kernel⟩) xcal_nil)))))) ?_ ?_
  · rintro av σ ⟨x, rfl, hpre⟩
    exact Nat.le_of_ble_eq_true rfl
  rintro av σ ⟨x, rfl, ⟨hp1, hp2, hp3⟩⟩ Rt hR
  have hR2 := hR2_g (Rt := Rt) (F := rinX σ x) (fun r s' => by rw [hR, fX6_ring_e])
  refine xto 23 (fun L st t => (0 ≤ x ∧ x ≤ 1) ∧ L = [some (.ref 0), some (.int x), some (.int (nI 0)), ryl σ 0] ∧ st = [] ∧ t = ryS σ 0) 30 ?_ ?_
  · rintro L st t ⟨hg, eL, est, et⟩
    rw [eL, est, et]
    have g0 : rinX σ x = if ryN σ < 401 then ((if x = 0 then ryV σ (ryN σ) else nI (ryN σ) - ryV σ (ryN σ)), ryW (ryS σ (ryN σ)) (ryN σ)) else noX (ryS σ 401) (-6) := by rw [rinX, if_neg (fun q => q hg)]
    rw [g0] at hR2
    clear hR g0
    refine xfor 23 401 90 (fun i => [some (.ref 0), some (.int x), some (.int (nI i)), ryl σ i]) (fun i => ryS σ i) (fun i => ∀ j, j < i → ryE σ j = false) (fun i hi hH => ?_) 0 (Nat.zero_le _) (fun j hj => by omega)
    have hc : (400 : Int32) < nI i ↔ 400 < i := nI_ltI (a := 400) (by omega) (by omega)
    have hc2 : (401 : Int32) ≤ nI i ↔ 401 ≤ i := nI_leI (a := 401) (by omega) (by omega)
    have hc3 : nI i ≤ (400 : Int32) ↔ i ≤ 400 := nI_leI (b := 400) (by omega) (by omega)
    have e0 : 0 ≤ nI i := nI_pos' (by omega)
    have e1 : nI i + 1 = nI (i + 1) := nI_1 i
    have e2 : tn (nI i) = i := tn_nI (by omega)
    have fin : i = 401 → (if ryN σ < 401 then ((if x = 0 then ryV σ (ryN σ) else nI (ryN σ) - ryV σ (ryN σ)), ryW (ryS σ (ryN σ)) (ryN σ)) else noX (ryS σ 401) (-6)) = noX (ryS σ i) (-6) := fun h => by
      have e9 : ryN σ = 401 := xfs_no (fun j hj => hH j (by omega))
      rw [e9, if_neg (Nat.lt_irrefl _), h]
    have stop : i < 401 → ryE σ i = true → (if ryN σ < 401 then ((if x = 0 then ryV σ (ryN σ) else nI (ryN σ) - ryV σ (ryN σ)), ryW (ryS σ (ryN σ)) (ryN σ)) else noX (ryS σ 401) (-6)) = ((if x = 0 then ryV σ i else nI i - ryV σ i), ryW (ryS σ i) i) := fun h1 h2 => by
      have e9 : ryN σ = i := xfs_at h1 h2 hH
      rw [e9, if_pos h1]
    have cont : ryE σ i = false → (∀ j, j < i + 1 → ryE σ j = false) := fun h2 => xall_s hH h2
    have e5 : ryE σ i = decide (¬ ryV σ i = -1) := rfl
    have e6 : xfirst (sbP (ryW (ryS σ i) i) i) i = ryV σ i := rfl
    have e7 : ∀ v, xJ (ryS σ i) 7 i v = xJ (ryS σ i) 7 i v := fun v => rfl
    by_cases h4 : 401 ≤ i
    · have hi4 : i = 401 := by omega
      have h5 : 400 < i := by omega
      have f := fin hi4
      simp only [noX] at f
      simp -implicitDefEqProofs only [xwp_2, xwp_0, xwp_1, xws_s, xdd_o, xld_0, xld_s, xs1_0, xs1_1, xs1_s, xs2_0, xs2_1, xs2_s, xlg_n, xlg_i, xlg_r, xlg_z, xlg_l, xf4_0, xf4_1, xf4_2, xf4_3, xgo_e, xcmp_eq, xcmp_ne, xcmp_lt, xcmp_ge, xcmp_gt, xcmp_le, xfg_0, xfg_1, xfg_2, xfg_3, xfg_4, xpop_0, xpop_s, xsw_n, xsw_c, xtb_n, xtb_c, xenp_n, xenp_i, xenp_r, xenp_z, xenp_l, xrep_0, xrep_s, Nat.reduceSub, true_and, and_true, cat_i, cat_r, Nat.reduceAdd, Nat.reduceLT, Nat.reduceLeDiff, Nat.reduceEqDiff, xnc, Int.reduceAdd, Int.reduceSub, Int.reduceNeg, Int.reduceLE, Int.reduceLT, Int.reduceToNat, ↓reduceIte, List.length_cons, List.length_nil, xlc0, xlc1, ite_10, i10, i01, i0_2, i0_3, i0_4, i0_6, i0_7, i0_8, i0_49, i0_10, or_true, true_or, or_false, false_or, not_false_eq_true, not_true_eq_false, xnt, xI_g, eq_self, xI_2, xJ_1, false_and, and_false, obT_t, obS_t, ob6_t, ob2_t, ob0_t, kT1_t, kT2_t, kT3_t, kT4_t, lT1, lT2, rT6, rT7, rT8, rT9, rT1i, rT2i, rS2, kSe_t, lSe, r0_0, r0_1, r0_2, r0_3, r0_4, r0_5, r0_6, r0_7, r0_8, r0_9, r1_i, r2_4, r2_5, r4_4, a1_t, a3_t, a5_t, a6_t, a7_t, a8_t, l1, l3, l5, l6, l7, l8, T1, T2, T3, T4, nI8, nI6, nI160, nI20, nI401, nI49, ob5_t, ob1_t, vp_tn, tn_def, lgc, dX6_ring_0, st_iload_n, dX6_ring_1, st_iconst, dX6_ring_2, st_invokestatic, dX6_ring_5, st_ifCond, dX6_ring_8, st_aload_n, dX6_ring_9, st_bipush, dX6_ring_11, st_invokevirtual, dX6_ring_14, st_ireturn, dX6_ring_15, dX6_ring_16, dX6_ring_17, dX6_ring_20, st_pop, dX6_ring_21, dX6_ring_22, st_istore_n, dX6_ring_23, dX6_ring_24, st_sipush, dX6_ring_27, st_if_icmp, dX6_ring_30, dX6_ring_31, dX6_ring_32, st_getfield, fl_X6_46, dX6_ring_35, st_arraylength, dX6_ring_36, dX6_ring_39, dX6_ring_40, dX6_ring_41, fl_X6_50, dX6_ring_44, dX6_ring_45, dX6_ring_48, dX6_ring_49, dX6_ring_52, dX6_ring_53, dX6_ring_54, fl_X6_22, dX6_ring_57, dX6_ring_58, dX6_ring_61, st_lastore, dX6_ring_62, dX6_ring_63, dX6_ring_66, dX6_ring_67, dX6_ring_68, dX6_ring_71, dX6_ring_72, dX6_ring_75, dX6_ring_76, dX6_ring_77, dX6_ring_78, dX6_ring_81, dX6_ring_82, dX6_ring_83, dX6_ring_84, dX6_ring_87, dX6_ring_88, dX6_ring_91, dX6_ring_92, st_goto, dX6_ring_95, dX6_ring_96, dX6_ring_97, st_isub, dX6_ring_98, dX6_ring_99, dX6_ring_100, dX6_ring_103, dX6_ring_106, dX6_ring_107, st_iinc, dX6_ring_110, dX6_ring_113, dX6_ring_114, dX6_ring_116, dX6_ring_119, c_X6_ring_110, pX6_isUpTo_e, fX6_isUpTo_e, Option.toList_some, Option.toList_none, List.cons_append, List.nil_append, c_X6_ring_66, pX6_refuse_e, fX6_refuse_e, c_X6_ring_207, pX6_think_e, fX6_think_e, c_X6_ring_224, pX4_packed_e, fX4_packed_e, c_X6_ring_227, pX6_sameBefore_e, fX6_sameBefore_e, c_X6_ring_219, pX4_goBeat_e, fX4_goBeat_e, ofJ_1, ofI_m5, ofI_0, ofI_400, ofJ_3, ofI_m1, ofI_m6, i0_03, i3_03, hp1, hp2, hp3, hc, hc2, h4, h5]
      simp only [hR2, f, noX]
      simp
    · have hlt : i < 401 := by omega
      have h5 : ¬ 400 < i := by omega
      have h6 : i ≤ 400 := by omega
      have z1 : (ryS σ i).1 200 2 = σ.1 100 2 := ryS_k
      simp -implicitDefEqProofs only [xwp_2, xwp_0, xwp_1, xws_s, xdd_o, xld_0, xld_s, xs1_0, xs1_1, xs1_s, xs2_0, xs2_1, xs2_s, xlg_n, xlg_i, xlg_r, xlg_z, xlg_l, xf4_0, xf4_1, xf4_2, xf4_3, xgo_e, xcmp_eq, xcmp_ne, xcmp_lt, xcmp_ge, xcmp_gt, xcmp_le, xfg_0, xfg_1, xfg_2, xfg_3, xfg_4, xpop_0, xpop_s, xsw_n, xsw_c, xtb_n, xtb_c, xenp_n, xenp_i, xenp_r, xenp_z, xenp_l, xrep_0, xrep_s, Nat.reduceSub, true_and, and_true, cat_i, cat_r, Nat.reduceAdd, Nat.reduceLT, Nat.reduceLeDiff, Nat.reduceEqDiff, xnc, Int.reduceAdd, Int.reduceSub, Int.reduceNeg, Int.reduceLE, Int.reduceLT, Int.reduceToNat, ↓reduceIte, List.length_cons, List.length_nil, xlc0, xlc1, ite_10, i10, i01, i0_2, i0_3, i0_4, i0_6, i0_7, i0_8, i0_49, i0_10, or_true, true_or, or_false, false_or, not_false_eq_true, not_true_eq_false, xnt, xI_g, eq_self, xI_2, xJ_1, false_and, and_false, obT_t, obS_t, ob6_t, ob2_t, ob0_t, kT1_t, kT2_t, kT3_t, kT4_t, lT1, lT2, rT6, rT7, rT8, rT9, rT1i, rT2i, rS2, kSe_t, lSe, r0_0, r0_1, r0_2, r0_3, r0_4, r0_5, r0_6, r0_7, r0_8, r0_9, r1_i, r2_4, r2_5, r4_4, a1_t, a3_t, a5_t, a6_t, a7_t, a8_t, l1, l3, l5, l6, l7, l8, T1, T2, T3, T4, nI8, nI6, nI160, nI20, nI401, nI49, ob5_t, ob1_t, vp_tn, tn_def, lgc, dX6_ring_0, st_iload_n, dX6_ring_1, st_iconst, dX6_ring_2, st_invokestatic, dX6_ring_5, st_ifCond, dX6_ring_8, st_aload_n, dX6_ring_9, st_bipush, dX6_ring_11, st_invokevirtual, dX6_ring_14, st_ireturn, dX6_ring_15, dX6_ring_16, dX6_ring_17, dX6_ring_20, st_pop, dX6_ring_21, dX6_ring_22, st_istore_n, dX6_ring_23, dX6_ring_24, st_sipush, dX6_ring_27, st_if_icmp, dX6_ring_30, dX6_ring_31, dX6_ring_32, st_getfield, fl_X6_46, dX6_ring_35, st_arraylength, dX6_ring_36, dX6_ring_39, dX6_ring_40, dX6_ring_41, fl_X6_50, dX6_ring_44, dX6_ring_45, dX6_ring_48, dX6_ring_49, dX6_ring_52, dX6_ring_53, dX6_ring_54, fl_X6_22, dX6_ring_57, dX6_ring_58, dX6_ring_61, st_lastore, dX6_ring_62, dX6_ring_63, dX6_ring_66, dX6_ring_67, dX6_ring_68, dX6_ring_71, dX6_ring_72, dX6_ring_75, dX6_ring_76, dX6_ring_77, dX6_ring_78, dX6_ring_81, dX6_ring_82, dX6_ring_83, dX6_ring_84, dX6_ring_87, dX6_ring_88, dX6_ring_91, dX6_ring_92, st_goto, dX6_ring_95, dX6_ring_96, dX6_ring_97, st_isub, dX6_ring_98, dX6_ring_99, dX6_ring_100, dX6_ring_103, dX6_ring_106, dX6_ring_107, st_iinc, dX6_ring_110, dX6_ring_113, dX6_ring_114, dX6_ring_116, dX6_ring_119, c_X6_ring_110, pX6_isUpTo_e, fX6_isUpTo_e, Option.toList_some, Option.toList_none, List.cons_append, List.nil_append, c_X6_ring_66, pX6_refuse_e, fX6_refuse_e, c_X6_ring_207, pX6_think_e, fX6_think_e, c_X6_ring_224, pX4_packed_e, fX4_packed_e, c_X6_ring_227, pX6_sameBefore_e, fX6_sameBefore_e, c_X6_ring_219, pX4_goBeat_e, fX4_goBeat_e, ofJ_1, ofI_m5, ofI_0, ofI_400, ofJ_3, ofI_m1, ofI_m6, i0_03, i3_03, hp1, hp2, hp3, hc, hc2, hc3, h4, h5, h6, hlt, e0, e1, e2, ryS_k, ryW_k, xJ_1', ryW_f, e6]
      rw [ryS_s, ryl_s]
      simp only [hR2]
      clear hR2 fin hH hc hc2 hc3
      generalize ryS σ (i + 1) = S1 at *
      generalize ryW (ryS σ i) i = S2 at *
      generalize ryV σ i = V at *
      have stop := stop hlt
      rw [e5] at stop cont
      simp only [decide_eq_true_eq, decide_eq_false_iff_not, Classical.not_not] at stop cont
      grind (splits := 40)
  · simp -implicitDefEqProofs only [xwp_2, xwp_0, xwp_1, xws_s, xdd_o, xld_0, xld_s, xs1_0, xs1_1, xs1_s, xs2_0, xs2_1, xs2_s, xlg_n, xlg_i, xlg_r, xlg_z, xlg_l, xf4_0, xf4_1, xf4_2, xf4_3, xgo_e, xcmp_eq, xcmp_ne, xcmp_lt, xcmp_ge, xcmp_gt, xcmp_le, xfg_0, xfg_1, xfg_2, xfg_3, xfg_4, xpop_0, xpop_s, xsw_n, xsw_c, xtb_n, xtb_c, xenp_n, xenp_i, xenp_r, xenp_z, xenp_l, xrep_0, xrep_s, Nat.reduceSub, true_and, and_true, cat_i, cat_r, Nat.reduceAdd, Nat.reduceLT, Nat.reduceLeDiff, Nat.reduceEqDiff, xnc, Int.reduceAdd, Int.reduceSub, Int.reduceNeg, Int.reduceLE, Int.reduceLT, Int.reduceToNat, ↓reduceIte, List.length_cons, List.length_nil, xlc0, xlc1, ite_10, i10, i01, i0_2, i0_3, i0_4, i0_6, i0_7, i0_8, i0_49, i0_10, or_true, true_or, or_false, false_or, not_false_eq_true, not_true_eq_false, xnt, xI_g, eq_self, xI_2, xJ_1, false_and, and_false, obT_t, obS_t, ob6_t, ob2_t, ob0_t, kT1_t, kT2_t, kT3_t, kT4_t, lT1, lT2, rT6, rT7, rT8, rT9, rT1i, rT2i, rS2, kSe_t, lSe, r0_0, r0_1, r0_2, r0_3, r0_4, r0_5, r0_6, r0_7, r0_8, r0_9, r1_i, r2_4, r2_5, r4_4, a1_t, a3_t, a5_t, a6_t, a7_t, a8_t, l1, l3, l5, l6, l7, l8, T1, T2, T3, T4, nI8, nI6, nI160, nI20, nI401, nI49, ob5_t, ob1_t, vp_tn, tn_def, lgc, dX6_ring_0, st_iload_n, dX6_ring_1, st_iconst, dX6_ring_2, st_invokestatic, dX6_ring_5, st_ifCond, dX6_ring_8, st_aload_n, dX6_ring_9, st_bipush, dX6_ring_11, st_invokevirtual, dX6_ring_14, st_ireturn, dX6_ring_15, dX6_ring_16, dX6_ring_17, dX6_ring_20, st_pop, dX6_ring_21, dX6_ring_22, st_istore_n, dX6_ring_23, dX6_ring_24, st_sipush, dX6_ring_27, st_if_icmp, dX6_ring_30, dX6_ring_31, dX6_ring_32, st_getfield, fl_X6_46, dX6_ring_35, st_arraylength, dX6_ring_36, dX6_ring_39, dX6_ring_40, dX6_ring_41, fl_X6_50, dX6_ring_44, dX6_ring_45, dX6_ring_48, dX6_ring_49, dX6_ring_52, dX6_ring_53, dX6_ring_54, fl_X6_22, dX6_ring_57, dX6_ring_58, dX6_ring_61, st_lastore, dX6_ring_62, dX6_ring_63, dX6_ring_66, dX6_ring_67, dX6_ring_68, dX6_ring_71, dX6_ring_72, dX6_ring_75, dX6_ring_76, dX6_ring_77, dX6_ring_78, dX6_ring_81, dX6_ring_82, dX6_ring_83, dX6_ring_84, dX6_ring_87, dX6_ring_88, dX6_ring_91, dX6_ring_92, st_goto, dX6_ring_95, dX6_ring_96, dX6_ring_97, st_isub, dX6_ring_98, dX6_ring_99, dX6_ring_100, dX6_ring_103, dX6_ring_106, dX6_ring_107, st_iinc, dX6_ring_110, dX6_ring_113, dX6_ring_114, dX6_ring_116, dX6_ring_119, c_X6_ring_110, pX6_isUpTo_e, fX6_isUpTo_e, Option.toList_some, Option.toList_none, List.cons_append, List.nil_append, c_X6_ring_66, pX6_refuse_e, fX6_refuse_e, c_X6_ring_207, pX6_think_e, fX6_think_e, c_X6_ring_224, pX4_packed_e, fX4_packed_e, c_X6_ring_227, pX6_sameBefore_e, fX6_sameBefore_e, c_X6_ring_219, pX4_goBeat_e, fX4_goBeat_e, ofJ_1, ofI_m5, ofI_0, ofI_400, ofJ_3, ofI_m1, ofI_m6, i0_03, i3_03, hp1, hp2, hp3, ryS_0, ryl_0, nI_00]
    simp only [hR2, rinX, noX]
    clear hR hR2
    grind (splits := 40)
theorem rX6_ring : ∀ as σ, pX6_ring as σ → ∃ K as', as = .ref K :: as' ∧ xob WX K 6 := by
  rintro as σ ⟨x, rfl, hpre⟩
  exact ⟨_, _, rfl, by first | exact hpre | exact hpre.1 | exact obT hpre | exact obT hpre.1 | exact obS hpre | exact obS hpre.1 | exact obM | exact ob6 | exact ob2 | exact ob0⟩
/-- one stranger drawn -/
def drV (σ : xS) (B : Nat) : Int32 := if xfs (dfr B σ) 100 < 100 then 1 else 0
def strY (B : Nat) (σ : xS) (n : Nat) : xS := if n < 100 then strX B σ n else sdI B 100 σ
def drT (σ : xS) (B : Nat) : xS := strY B σ (xfs (dfr B σ) 100)
theorem fX4_drawStranger_n {B : Nat} {σ : xS} : fX4_drawStranger [.ref B] σ = (some (.int (drV σ B)), drT σ B) := rfl
theorem strX_k {B : Nat} {σ : xS} {i : Nat} : (strX B σ i).1 B 2 = σ.1 B 2 + 1 := by
  unfold strX addW
  rw [xI_s, drS_o (Or.inr (by decide)), drS_o (Or.inr (by decide)), sdI_o (Or.inr (by decide))]
theorem strY_k {B : Nat} {σ : xS} {n : Nat} : (strY B σ n).1 B 2 = σ.1 B 2 + (if n < 100 then 1 else 0) := by
  unfold strY
  split
  · exact strX_k
  · rw [Int32.add_zero]
    exact sdI_o (Or.inr (by decide))
theorem drT_n {σ : xS} {B : Nat} : ∃ n, drT σ B = strY B σ n ∧ drV σ B = (if n < 100 then 1 else 0) := ⟨xfs (dfr B σ) 100, rfl, rfl⟩
theorem drT_k {σ : xS} : (drT σ 100).1 100 2 = σ.1 100 2 + drV σ 100 := by
  obtain ⟨n, h1, h2⟩ := drT_n (σ := σ) (B := 100)
  rw [h1, h2]
  exact strY_k
theorem ite_01 {p : Prop} [Decidable p] : (if p then (1 : Int32) else 0) = 0 ∨ (if p then (1 : Int32) else 0) = 1 := by
  split
  · exact Or.inr rfl
  · exact Or.inl rfl
theorem drV_01 {σ : xS} : drV σ 100 = 0 ∨ drV σ 100 = 1 := by
  obtain ⟨n, h1, h2⟩ := drT_n (σ := σ) (B := 100)
  rw [h2]
  exact ite_01
/-- one more, if there is room -/
def sk1 (F : Int32 × xS) (d : Int32) (T : xS) : Int32 × xS := if F.2.1 100 2 < 6 then (if d = 0 then F.1 else F.1 + 1, T) else F
def skF (σ : xS) : Nat → Int32 × xS
  | 0 => (0, σ)
  | i + 1 => sk1 (skF σ i) (drV (skF σ i).2 100) (drT (skF σ i).2 100)
theorem skF_s {σ : xS} {i : Nat} : skF σ (i + 1) = sk1 (skF σ i) (drV (skF σ i).2 100) (drT (skF σ i).2 100) := rfl
theorem cnt_1 {x d : Int32} (h0 : 0 ≤ x) (h : x < 6) (hd : d = 0 ∨ d = 1) : 0 ≤ x + d ∧ x + d ≤ 6 := by
  have a1 := t_le.mp h0
  have a2 := t_lt.mp h
  have e0 : (0 : Int32).toInt = 0 := rfl
  have e6 : (6 : Int32).toInt = 6 := rfl
  have e1 : (1 : Int32).toInt = 1 := rfl
  rw [e0] at a1
  rw [e6] at a2
  rcases hd with rfl | rfl
  · rw [Int32.add_zero]; exact ⟨h0, Int32.le_of_lt h⟩
  · constructor
    · rw [t_le, t_add (by rw [e1]; omega) (by rw [e1]; omega), e1, e0]; omega
    · rw [t_le, t_add (by rw [e1]; omega) (by rw [e1]; omega), e1, e6]; omega
theorem sk1_k {F : Int32 × xS} {d : Int32} {T : xS} (hT : T.1 100 2 = F.2.1 100 2 + d) (hd : d = 0 ∨ d = 1) (h : 0 ≤ F.2.1 100 2 ∧ F.2.1 100 2 ≤ 6) : 0 ≤ (sk1 F d T).2.1 100 2 ∧ (sk1 F d T).2.1 100 2 ≤ 6 := by
  unfold sk1
  split
  · rename_i h6
    dsimp only
    rw [hT]
    exact cnt_1 h.1 h6 hd
  · exact h
theorem skF_k {σ : xS} (h0 : 0 ≤ σ.1 100 2) (h6 : σ.1 100 2 ≤ 6) (i : Nat) : 0 ≤ (skF σ i).2.1 100 2 ∧ (skF σ i).2.1 100 2 ≤ 6 := by
  induction i with
  | zero => exact ⟨h0, h6⟩
  | succ i ih =>
    rw [skF_s]
    exact sk1_k drT_k drV_01 ih
def strgX (σ : xS) (n : Int32) : Int32 × xS := if σ.1 100 1 = 0 then noX σ (-5) else if n < 1 ∨ 6 < n then noX σ (-6) else skF σ (tn n)
def pX6_strangers (as : List Value) (σ : xS) : Prop := ∃ (n : Int32), as = [.ref 0, .int n] ∧ ((0 ≤ σ.1 100 2) ∧ (σ.1 100 2 ≤ 6))
def fX6_strangers (as : List Value) (σ : xS) : Option Value × xS := match as with
  | [.ref 0, .int n] => (some (.int (strgX σ n).1), (strgX σ n).2)
  | _ => (none, σ)
theorem pX6_strangers_e {n : Int32} {σ : xS} : pX6_strangers [.ref 0, .int n] σ = ((0 ≤ σ.1 100 2) ∧ (σ.1 100 2 ≤ 6)) := propext ⟨fun h => by obtain ⟨n, e, h⟩ := h; cases e; exact h, fun h => ⟨n, rfl, h⟩⟩
theorem fX6_strangers_e {n : Int32} {σ : xS} : fX6_strangers [.ref 0, .int n] σ = (some (.int (strgX σ n).1), (strgX σ n).2) := rfl
def calX6_strangers : List (Nat × xCall) := [(66, (false, 2, pX6_refuse, fX6_refuse)), (167, (false, 1, pX4_hasRoomForWalker, fX4_hasRoomForWalker)), (264, (false, 1, pX4_drawStranger, fX4_drawStranger))]
theorem c_X6_strangers_66 : xlk calX6_strangers 66 = some (false, 2, pX6_refuse, fX6_refuse) := rfl
theorem c_X6_strangers_167 : xlk calX6_strangers 167 = some (false, 1, pX4_hasRoomForWalker, fX4_hasRoomForWalker) := rfl
theorem c_X6_strangers_264 : xlk calX6_strangers 264 = some (false, 1, pX4_drawStranger, fX4_drawStranger) := rfl
set_option maxHeartbeats 4000000 in
set_option maxRecDepth 100000 in
theorem mX6_strangers : xMet WX yX6_strangers cX6_strangers 4 (some .int) 5 pX6_strangers fX6_strangers := by
  refine xMet_of (fld := xlk fldX6) (cal := xlk calX6_strangers) (ks := xlk []) (gs := xlk []) (ro := fun _ => none) 0 (by decide) WX_nd rfl fldX6_ok xKs_nil xGs_nil (Or.inr rfl) (xcal_cons (xCk_V mX6_refuse 6 (by decide) (by decide) (by decide) rfl (fun as σ h _ => rX6_refuse as σ h) w_X6_66 ⟨by decide, by decide, by decide +kernel⟩) (xcal_cons (xCk_V mX4_hasRoomForWalker 4 (by decide) (by decide) (by decide) rfl (fun as σ h _ => rX4_hasRoomForWalker as σ h) w_X6_167 ⟨by decide, by decide, by decide +kernel⟩) (xcal_cons (xCk_V mX4_drawStranger 4 (by decide) (by decide) (by decide) rfl (fun as σ h _ => rX4_drawStranger as σ h) w_X6_264 ⟨by decide, by decide, by decide +kernel⟩) xcal_nil))) ?_ ?_
  · rintro av σ ⟨n, rfl, hpre⟩
    exact Nat.le_of_ble_eq_true rfl
  rintro av σ ⟨n, rfl, ⟨hp1, hp2⟩⟩ Rt hR
  have hR2 := hR2_g (Rt := Rt) (F := strgX σ n) (fun r s' => by rw [hR, fX6_strangers_e])
  refine xto 39 (fun L st t => (¬ σ.1 100 1 = 0 ∧ ¬ (n < 1 ∨ 6 < n)) ∧ L = [some (.ref 0), some (.int n), some (.int (skF σ 0).1), some (.int (nI 0))] ∧ st = [] ∧ t = (skF σ 0).2) 30 ?_ ?_
  · rintro L st t ⟨⟨hg1, hg2⟩, eL, est, et⟩
    rw [eL, est, et]
    have h6 : tn n ≤ 6 := xwk6 (Int32.not_lt.mp (fun q => hg2 (Or.inr q)))
    rw [strgX, if_neg hg1, if_neg hg2] at hR2
    clear hR
    refine xfor 39 (tn n) 60 (fun i => [some (.ref 0), some (.int n), some (.int (skF σ i).1), some (.int (nI i))]) (fun i => (skF σ i).2) (fun _ => True) (fun i hi _ => ?_) 0 (Nat.zero_le _) trivial
    have hc := le_nI_tn (i := i) (x := n) hi
    have e1 : nI i + 1 = nI (i + 1) := nI_1 i
    have hk := skF_k hp1 hp2 i
    have k1 := hk.1
    have fin : i = tn n → ((skF σ i).1, (skF σ i).2) = skF σ (tn n) := fun h => by rw [← h]
    simp -implicitDefEqProofs only [xwp_2, xwp_0, xwp_1, xws_s, xdd_o, xld_0, xld_s, xs1_0, xs1_1, xs1_s, xs2_0, xs2_1, xs2_s, xlg_n, xlg_i, xlg_r, xlg_z, xlg_l, xf4_0, xf4_1, xf4_2, xf4_3, xgo_e, xcmp_eq, xcmp_ne, xcmp_lt, xcmp_ge, xcmp_gt, xcmp_le, xfg_0, xfg_1, xfg_2, xfg_3, xfg_4, xpop_0, xpop_s, xsw_n, xsw_c, xtb_n, xtb_c, xenp_n, xenp_i, xenp_r, xenp_z, xenp_l, xrep_0, xrep_s, Nat.reduceSub, true_and, and_true, cat_i, cat_r, Nat.reduceAdd, Nat.reduceLT, Nat.reduceLeDiff, Nat.reduceEqDiff, xnc, Int.reduceAdd, Int.reduceSub, Int.reduceNeg, Int.reduceLE, Int.reduceLT, Int.reduceToNat, ↓reduceIte, List.length_cons, List.length_nil, xlc0, xlc1, ite_10, i10, i01, i0_2, i0_3, i0_4, i0_6, i0_7, i0_8, i0_49, i0_10, or_true, true_or, or_false, false_or, not_false_eq_true, not_true_eq_false, xnt, xI_g, eq_self, xI_2, xJ_1, false_and, and_false, obT_t, obS_t, ob6_t, ob2_t, ob0_t, kT1_t, kT2_t, kT3_t, kT4_t, lT1, lT2, rT6, rT7, rT8, rT9, rT1i, rT2i, rS2, kSe_t, lSe, r0_0, r0_1, r0_2, r0_3, r0_4, r0_5, r0_6, r0_7, r0_8, r0_9, r1_i, r2_4, r2_5, r4_4, a1_t, a3_t, a5_t, a6_t, a7_t, a8_t, l1, l3, l5, l6, l7, l8, T1, T2, T3, T4, nI8, nI6, nI160, nI20, nI401, nI49, ob5_t, ob1_t, vp_tn, tn_def, lgc, dX6_strangers_0, st_aload_n, dX6_strangers_1, st_getfield, fl_X6_18, dX6_strangers_4, fl_X6_255, dX6_strangers_7, st_ifCond, dX6_strangers_10, dX6_strangers_11, st_bipush, dX6_strangers_13, st_invokevirtual, dX6_strangers_16, st_ireturn, dX6_strangers_17, st_iload_n, dX6_strangers_18, st_iconst, dX6_strangers_19, st_if_icmp, dX6_strangers_22, dX6_strangers_23, dX6_strangers_25, dX6_strangers_28, dX6_strangers_29, dX6_strangers_31, dX6_strangers_34, dX6_strangers_35, dX6_strangers_36, st_istore_n, dX6_strangers_37, dX6_strangers_38, dX6_strangers_39, dX6_strangers_40, dX6_strangers_41, dX6_strangers_44, dX6_strangers_45, dX6_strangers_48, dX6_strangers_51, dX6_strangers_54, dX6_strangers_55, dX6_strangers_58, dX6_strangers_61, dX6_strangers_64, st_iinc, dX6_strangers_67, dX6_strangers_70, st_goto, dX6_strangers_73, dX6_strangers_74, c_X6_strangers_66, pX6_refuse_e, fX6_refuse_e, Option.toList_some, Option.toList_none, List.cons_append, List.nil_append, c_X6_strangers_167, pX4_hasRoomForWalker_e, fX4_hasRoomForWalker_e, c_X6_strangers_264, pX4_drawStranger_e, fX4_drawStranger_n, ofI_m5, ofJ_1, ofI_6, ofI_m6, ofI_0, hp1, hp2, hc, e1, k1]
    rw [skF_s]
    simp only [hR2]
    clear hR2 hc e1 hp1 hp2 hk hg1 hg2
    generalize skF σ i = F at *
    generalize drV F.2 100 = dv at *
    generalize drT F.2 100 = dt at *
    unfold sk1
    grind (splits := 40)
  · have z1 : (skF σ 0).1 = 0 := rfl
    have z2 : (skF σ 0).2 = σ := rfl
    simp -implicitDefEqProofs only [xwp_2, xwp_0, xwp_1, xws_s, xdd_o, xld_0, xld_s, xs1_0, xs1_1, xs1_s, xs2_0, xs2_1, xs2_s, xlg_n, xlg_i, xlg_r, xlg_z, xlg_l, xf4_0, xf4_1, xf4_2, xf4_3, xgo_e, xcmp_eq, xcmp_ne, xcmp_lt, xcmp_ge, xcmp_gt, xcmp_le, xfg_0, xfg_1, xfg_2, xfg_3, xfg_4, xpop_0, xpop_s, xsw_n, xsw_c, xtb_n, xtb_c, xenp_n, xenp_i, xenp_r, xenp_z, xenp_l, xrep_0, xrep_s, Nat.reduceSub, true_and, and_true, cat_i, cat_r, Nat.reduceAdd, Nat.reduceLT, Nat.reduceLeDiff, Nat.reduceEqDiff, xnc, Int.reduceAdd, Int.reduceSub, Int.reduceNeg, Int.reduceLE, Int.reduceLT, Int.reduceToNat, ↓reduceIte, List.length_cons, List.length_nil, xlc0, xlc1, ite_10, i10, i01, i0_2, i0_3, i0_4, i0_6, i0_7, i0_8, i0_49, i0_10, or_true, true_or, or_false, false_or, not_false_eq_true, not_true_eq_false, xnt, xI_g, eq_self, xI_2, xJ_1, false_and, and_false, obT_t, obS_t, ob6_t, ob2_t, ob0_t, kT1_t, kT2_t, kT3_t, kT4_t, lT1, lT2, rT6, rT7, rT8, rT9, rT1i, rT2i, rS2, kSe_t, lSe, r0_0, r0_1, r0_2, r0_3, r0_4, r0_5, r0_6, r0_7, r0_8, r0_9, r1_i, r2_4, r2_5, r4_4, a1_t, a3_t, a5_t, a6_t, a7_t, a8_t, l1, l3, l5, l6, l7, l8, T1, T2, T3, T4, nI8, nI6, nI160, nI20, nI401, nI49, ob5_t, ob1_t, vp_tn, tn_def, lgc, dX6_strangers_0, st_aload_n, dX6_strangers_1, st_getfield, fl_X6_18, dX6_strangers_4, fl_X6_255, dX6_strangers_7, st_ifCond, dX6_strangers_10, dX6_strangers_11, st_bipush, dX6_strangers_13, st_invokevirtual, dX6_strangers_16, st_ireturn, dX6_strangers_17, st_iload_n, dX6_strangers_18, st_iconst, dX6_strangers_19, st_if_icmp, dX6_strangers_22, dX6_strangers_23, dX6_strangers_25, dX6_strangers_28, dX6_strangers_29, dX6_strangers_31, dX6_strangers_34, dX6_strangers_35, dX6_strangers_36, st_istore_n, dX6_strangers_37, dX6_strangers_38, dX6_strangers_39, dX6_strangers_40, dX6_strangers_41, dX6_strangers_44, dX6_strangers_45, dX6_strangers_48, dX6_strangers_51, dX6_strangers_54, dX6_strangers_55, dX6_strangers_58, dX6_strangers_61, dX6_strangers_64, st_iinc, dX6_strangers_67, dX6_strangers_70, st_goto, dX6_strangers_73, dX6_strangers_74, c_X6_strangers_66, pX6_refuse_e, fX6_refuse_e, Option.toList_some, Option.toList_none, List.cons_append, List.nil_append, c_X6_strangers_167, pX4_hasRoomForWalker_e, fX4_hasRoomForWalker_e, c_X6_strangers_264, pX4_drawStranger_e, fX4_drawStranger_n, ofI_m5, ofJ_1, ofI_6, ofI_m6, ofI_0, hp1, hp2, z1, z2, nI_00]
    simp only [hR2, strgX, noX]
    clear hR hR2
    grind (splits := 40)
theorem rX6_strangers : ∀ as σ, pX6_strangers as σ → ∃ K as', as = .ref K :: as' ∧ xob WX K 6 := by
  rintro as σ ⟨n, rfl, hpre⟩
  exact ⟨_, _, rfl, by first | exact hpre | exact hpre.1 | exact obT hpre | exact obT hpre.1 | exact obS hpre | exact obS hpre.1 | exact obM | exact ob6 | exact ob2 | exact ob0⟩
/-- a keeper hired -/
def hbS (σ : xS) (g b : Int32) : xS := addW (tkW 200 100 (tn (σ.1 100 2)) (xI σ 200 2 (σ.1 100 2))) 200 (220 + tn (σ.1 100 2)) 1 (b / 4) (xrem b 4) g 0
theorem tkW_k {σ : xS} {n : Nat} {v : Int32} : (tkW 200 100 n (xI σ 200 2 v)).1 200 2 = v := by
  rw [tkW_o (by omega), xI_s]
theorem hbS_k {σ : xS} {g b : Int32} : (hbS σ g b).1 200 2 = σ.1 100 2 + 1 := by
  unfold hbS addW
  rw [xI_s, tkW_k]
theorem hbS_f {σ : xS} {g b : Int32} : addW (tkW 200 100 (tn (σ.1 100 2)) (xI σ 200 2 (σ.1 100 2))) 200 (220 + tn (σ.1 100 2)) 1 (b / 4) (xrem b 4) g 0 = hbS σ g b := rfl
def hbP (σ : xS) (g b : Int32) (j : Nat) : Bool := decide (haX (gbX 200 j (hbS σ g b)) 200 g = false)
def hbN (σ : xS) (g b n : Int32) : Nat := xfs (hbP σ g b) (tn n)
def hbV (σ : xS) (g b n : Int32) : Int32 := nI (hbN σ g b n)
def hbT (σ : xS) (g b n : Int32) : xS := gbX 200 (hbN σ g b n) (hbS σ g b)
theorem ne21 : ((200 : Nat) ≠ 100) = True := eq_true (by decide)
theorem i4_0 : ((4 : Int32) = 0) = False := eq_false (by decide)
def pX6_beatOfHire (as : List Value) (σ : xS) : Prop := ∃ (g : Int32) (b : Int32) (n : Int32), as = [.ref 0, .int g, .int b, .int n] ∧ ((0 ≤ σ.1 100 2) ∧ (σ.1 100 2 < 6) ∧ (0 ≤ n))
def fX6_beatOfHire (as : List Value) (σ : xS) : Option Value × xS := match as with
  | [.ref 0, .int g, .int b, .int n] => (some (.int (hbV σ g b n)), hbT σ g b n)
  | _ => (none, σ)
theorem pX6_beatOfHire_e {g : Int32} {b : Int32} {n : Int32} {σ : xS} : pX6_beatOfHire [.ref 0, .int g, .int b, .int n] σ = ((0 ≤ σ.1 100 2) ∧ (σ.1 100 2 < 6) ∧ (0 ≤ n)) := propext ⟨fun h => by obtain ⟨g, b, n, e, h⟩ := h; cases e; exact h, fun h => ⟨g, b, n, rfl, h⟩⟩
theorem fX6_beatOfHire_e {g : Int32} {b : Int32} {n : Int32} {σ : xS} : fX6_beatOfHire [.ref 0, .int g, .int b, .int n] σ = (some (.int (hbV σ g b n)), hbT σ g b n) := rfl
def calX6_beatOfHire : List (Nat × xCall) := [(315, (false, 2, pX4_takeWalkersOf, fX4_takeWalkersOf)), (170, (false, 6, pX4_addWalker, fX4_addWalker)), (236, (false, 2, pX4_haveAll, fX4_haveAll)), (219, (false, 1, pX4_goBeat, fX4_goBeat))]
theorem c_X6_beatOfHire_315 : xlk calX6_beatOfHire 315 = some (false, 2, pX4_takeWalkersOf, fX4_takeWalkersOf) := rfl
theorem c_X6_beatOfHire_170 : xlk calX6_beatOfHire 170 = some (false, 6, pX4_addWalker, fX4_addWalker) := rfl
theorem c_X6_beatOfHire_236 : xlk calX6_beatOfHire 236 = some (false, 2, pX4_haveAll, fX4_haveAll) := rfl
theorem c_X6_beatOfHire_219 : xlk calX6_beatOfHire 219 = some (false, 1, pX4_goBeat, fX4_goBeat) := rfl
set_option maxHeartbeats 4000000 in
set_option maxRecDepth 100000 in
theorem mX6_beatOfHire : xMet WX yX6_beatOfHire cX6_beatOfHire 5 (some .int) 5 pX6_beatOfHire fX6_beatOfHire := by
  refine xMet_of (fld := xlk fldX6) (cal := xlk calX6_beatOfHire) (ks := xlk []) (gs := xlk []) (ro := fun _ => none) 0 (by decide) WX_nd rfl fldX6_ok xKs_nil xGs_nil (Or.inr rfl) (xcal_cons (xCk_V mX4_takeWalkersOf 4 (by decide) (by decide) (by decide) rfl (fun as σ h _ => rX4_takeWalkersOf as σ h) w_X6_315 ⟨by decide, by decide, by decide +kernel⟩) (xcal_cons (xCk_V mX4_addWalker 4 (by decide) (by decide) (by decide) rfl (fun as σ h _ => rX4_addWalker as σ h) w_X6_170 ⟨by decide, by decide, by decide +kernel⟩) (xcal_cons (xCk_V mX4_haveAll 4 (by decide) (by decide) (by decide) rfl (fun as σ h _ => rX4_haveAll as σ h) w_X6_236 ⟨by decide, by decide, by decide +kernel⟩) (xcal_cons (xCk_V mX4_goBeat 4 (by decide) (by decide) (by decide) rfl (fun as σ h _ => rX4_goBeat as σ h) w_X6_219 ⟨by decide, by decide, by decide +kernel⟩) xcal_nil)))) ?_ ?_
  · rintro av σ ⟨g, b, n, rfl, hpre⟩
    exact Nat.le_of_ble_eq_true rfl
  rintro av σ ⟨g, b, n, rfl, ⟨hp1, hp2, hp3⟩⟩ Rt hR
  have hx : fX6_beatOfHire [.ref 0, .int g, .int b, .int n] σ = (some (.int (nI (hbN σ g b n))), gbX 200 (hbN σ g b n) (hbS σ g b)) := rfl
  rw [hx] at hR
  clear hx
  have hn0 : nI (tn n) = n := tn_of hp3
  have hk6 := lt6_le6 hp2
  have k1 := cnt_1 hp1 hp2 (Or.inr rfl)
  have k2 := k1.1
  have k3 := k1.2
  have z1 : ∀ j, (gbX 200 j (hbS σ g b)).1 200 2 = σ.1 100 2 + 1 := fun j => by rw [gbX_B, hbS_k]
  refine xto 31 (fun L st t => L = [some (.ref 0), some (.int g), some (.int b), some (.int n), some (.int (nI 0))] ∧ st = [] ∧ t = gbX 200 0 (hbS σ g b)) 30 ?_ ?_
  · rintro L st t ⟨eL, est, et⟩
    rw [eL, est, et]
    refine xfor 31 (tn n) 60 (fun i => [some (.ref 0), some (.int g), some (.int b), some (.int n), some (.int (nI i))]) (fun i => gbX 200 i (hbS σ g b)) (fun i => ∀ j, j < i → hbP σ g b j = false) (fun i hi hH => ?_) 0 (Nat.zero_le _) (fun j hj => by omega)
    have hc := le_nI_tn (i := i) (x := n) hi
    have e1 : nI i + 1 = nI (i + 1) := nI_1 i
    have e5 : hbP σ g b i = decide (haX (gbX 200 i (hbS σ g b)) 200 g = false) := rfl
    have e7 : beatX 200 (gbX 200 i (hbS σ g b)) = gbX 200 (i + 1) (hbS σ g b) := rfl
    have cont : hbP σ g b i = false → (∀ j, j < i + 1 → hbP σ g b j = false) := fun h2 => xall_s hH h2
    have fin : i = tn n → Rt (some (.int n)) (gbX 200 i (hbS σ g b)) := fun h => by
      have e9 : hbN σ g b n = tn n := xfs_no (by rw [h] at hH; exact hH)
      rw [hR, e9, hn0, h]
      exact ⟨rfl, rfl⟩
    have stop : i < tn n → hbP σ g b i = true → Rt (some (.int (nI i))) (gbX 200 i (hbS σ g b)) := fun h1 h2 => by
      have e9 : hbN σ g b n = i := xfs_at h1 h2 hH
      rw [hR, e9]
      exact ⟨rfl, rfl⟩
    simp -implicitDefEqProofs only [xwp_2, xwp_0, xwp_1, xws_s, xdd_o, xld_0, xld_s, xs1_0, xs1_1, xs1_s, xs2_0, xs2_1, xs2_s, xlg_n, xlg_i, xlg_r, xlg_z, xlg_l, xf4_0, xf4_1, xf4_2, xf4_3, xgo_e, xcmp_eq, xcmp_ne, xcmp_lt, xcmp_ge, xcmp_gt, xcmp_le, xfg_0, xfg_1, xfg_2, xfg_3, xfg_4, xpop_0, xpop_s, xsw_n, xsw_c, xtb_n, xtb_c, xenp_n, xenp_i, xenp_r, xenp_z, xenp_l, xrep_0, xrep_s, Nat.reduceSub, true_and, and_true, cat_i, cat_r, Nat.reduceAdd, Nat.reduceLT, Nat.reduceLeDiff, Nat.reduceEqDiff, xnc, Int.reduceAdd, Int.reduceSub, Int.reduceNeg, Int.reduceLE, Int.reduceLT, Int.reduceToNat, ↓reduceIte, List.length_cons, List.length_nil, xlc0, xlc1, ite_10, i10, i01, i0_2, i0_3, i0_4, i0_6, i0_7, i0_8, i0_49, i0_10, or_true, true_or, or_false, false_or, not_false_eq_true, not_true_eq_false, xnt, xI_g, eq_self, xI_2, xJ_1, false_and, and_false, obT_t, obS_t, ob6_t, ob2_t, ob0_t, kT1_t, kT2_t, kT3_t, kT4_t, lT1, lT2, rT6, rT7, rT8, rT9, rT1i, rT2i, rS2, kSe_t, lSe, r0_0, r0_1, r0_2, r0_3, r0_4, r0_5, r0_6, r0_7, r0_8, r0_9, r1_i, r2_4, r2_5, r4_4, a1_t, a3_t, a5_t, a6_t, a7_t, a8_t, l1, l3, l5, l6, l7, l8, T1, T2, T3, T4, nI8, nI6, nI160, nI20, nI401, nI49, ob5_t, ob1_t, vp_tn, tn_def, lgc, dX6_beatOfHire_0, st_aload_n, dX6_beatOfHire_1, st_getfield, fl_X6_22, dX6_beatOfHire_4, dX6_beatOfHire_5, fl_X6_18, dX6_beatOfHire_8, st_invokevirtual, dX6_beatOfHire_11, dX6_beatOfHire_12, dX6_beatOfHire_15, st_iconst, dX6_beatOfHire_16, st_iload_n, dX6_beatOfHire_17, dX6_beatOfHire_18, st_idiv, dX6_beatOfHire_19, dX6_beatOfHire_20, dX6_beatOfHire_21, st_irem, dX6_beatOfHire_22, dX6_beatOfHire_23, dX6_beatOfHire_24, dX6_beatOfHire_27, st_pop, dX6_beatOfHire_28, dX6_beatOfHire_29, st_istore, dX6_beatOfHire_31, st_iload, dX6_beatOfHire_33, dX6_beatOfHire_34, st_if_icmp, dX6_beatOfHire_37, dX6_beatOfHire_38, dX6_beatOfHire_41, dX6_beatOfHire_42, dX6_beatOfHire_45, st_ifCond, dX6_beatOfHire_48, dX6_beatOfHire_50, st_ireturn, dX6_beatOfHire_51, dX6_beatOfHire_52, dX6_beatOfHire_55, dX6_beatOfHire_58, dX6_beatOfHire_59, st_iinc, dX6_beatOfHire_62, st_goto, dX6_beatOfHire_65, dX6_beatOfHire_66, c_X6_beatOfHire_315, pX4_takeWalkersOf_e, fX4_takeWalkersOf_e, Option.toList_some, Option.toList_none, List.cons_append, List.nil_append, c_X6_beatOfHire_170, pX4_addWalker_e, fX4_addWalker_e, c_X6_beatOfHire_236, pX4_haveAll_e, fX4_haveAll_n, c_X6_beatOfHire_219, pX4_goBeat_e, fX4_goBeat_e, ofJ_1, ofI_4, ofI_0, ne21, i4_0, hp1, hp2, hp3, hc, z1, k2, k3, e1, e7]
    clear hR e7 z1
    generalize gbX 200 (i + 1) (hbS σ g b) = S1 at *
    generalize haX (gbX 200 i (hbS σ g b)) 200 g = xa at *
    generalize gbX 200 i (hbS σ g b) = S0 at *
    grind (splits := 40)
  · have z0 : gbX 200 0 (hbS σ g b) = hbS σ g b := rfl
    simp -implicitDefEqProofs only [xwp_2, xwp_0, xwp_1, xws_s, xdd_o, xld_0, xld_s, xs1_0, xs1_1, xs1_s, xs2_0, xs2_1, xs2_s, xlg_n, xlg_i, xlg_r, xlg_z, xlg_l, xf4_0, xf4_1, xf4_2, xf4_3, xgo_e, xcmp_eq, xcmp_ne, xcmp_lt, xcmp_ge, xcmp_gt, xcmp_le, xfg_0, xfg_1, xfg_2, xfg_3, xfg_4, xpop_0, xpop_s, xsw_n, xsw_c, xtb_n, xtb_c, xenp_n, xenp_i, xenp_r, xenp_z, xenp_l, xrep_0, xrep_s, Nat.reduceSub, true_and, and_true, cat_i, cat_r, Nat.reduceAdd, Nat.reduceLT, Nat.reduceLeDiff, Nat.reduceEqDiff, xnc, Int.reduceAdd, Int.reduceSub, Int.reduceNeg, Int.reduceLE, Int.reduceLT, Int.reduceToNat, ↓reduceIte, List.length_cons, List.length_nil, xlc0, xlc1, ite_10, i10, i01, i0_2, i0_3, i0_4, i0_6, i0_7, i0_8, i0_49, i0_10, or_true, true_or, or_false, false_or, not_false_eq_true, not_true_eq_false, xnt, xI_g, eq_self, xI_2, xJ_1, false_and, and_false, obT_t, obS_t, ob6_t, ob2_t, ob0_t, kT1_t, kT2_t, kT3_t, kT4_t, lT1, lT2, rT6, rT7, rT8, rT9, rT1i, rT2i, rS2, kSe_t, lSe, r0_0, r0_1, r0_2, r0_3, r0_4, r0_5, r0_6, r0_7, r0_8, r0_9, r1_i, r2_4, r2_5, r4_4, a1_t, a3_t, a5_t, a6_t, a7_t, a8_t, l1, l3, l5, l6, l7, l8, T1, T2, T3, T4, nI8, nI6, nI160, nI20, nI401, nI49, ob5_t, ob1_t, vp_tn, tn_def, lgc, dX6_beatOfHire_0, st_aload_n, dX6_beatOfHire_1, st_getfield, fl_X6_22, dX6_beatOfHire_4, dX6_beatOfHire_5, fl_X6_18, dX6_beatOfHire_8, st_invokevirtual, dX6_beatOfHire_11, dX6_beatOfHire_12, dX6_beatOfHire_15, st_iconst, dX6_beatOfHire_16, st_iload_n, dX6_beatOfHire_17, dX6_beatOfHire_18, st_idiv, dX6_beatOfHire_19, dX6_beatOfHire_20, dX6_beatOfHire_21, st_irem, dX6_beatOfHire_22, dX6_beatOfHire_23, dX6_beatOfHire_24, dX6_beatOfHire_27, st_pop, dX6_beatOfHire_28, dX6_beatOfHire_29, st_istore, dX6_beatOfHire_31, st_iload, dX6_beatOfHire_33, dX6_beatOfHire_34, st_if_icmp, dX6_beatOfHire_37, dX6_beatOfHire_38, dX6_beatOfHire_41, dX6_beatOfHire_42, dX6_beatOfHire_45, st_ifCond, dX6_beatOfHire_48, dX6_beatOfHire_50, st_ireturn, dX6_beatOfHire_51, dX6_beatOfHire_52, dX6_beatOfHire_55, dX6_beatOfHire_58, dX6_beatOfHire_59, st_iinc, dX6_beatOfHire_62, st_goto, dX6_beatOfHire_65, dX6_beatOfHire_66, c_X6_beatOfHire_315, pX4_takeWalkersOf_e, fX4_takeWalkersOf_e, Option.toList_some, Option.toList_none, List.cons_append, List.nil_append, c_X6_beatOfHire_170, pX4_addWalker_e, fX4_addWalker_e, c_X6_beatOfHire_236, pX4_haveAll_e, fX4_haveAll_n, c_X6_beatOfHire_219, pX4_goBeat_e, fX4_goBeat_e, ofJ_1, ofI_4, ofI_0, ne21, i4_0, hp1, hp2, hp3, tkW_k, hk6, hbS_f, z0, nI_00]
theorem rX6_beatOfHire : ∀ as σ, pX6_beatOfHire as σ → ∃ K as', as = .ref K :: as' ∧ xob WX K 6 := by
  rintro as σ ⟨g, b, n, rfl, hpre⟩
  exact ⟨_, _, rfl, by first | exact hpre | exact hpre.1 | exact obT hpre | exact obT hpre.1 | exact obS hpre | exact obS hpre.1 | exact obM | exact ob6 | exact ob2 | exact ob0⟩
