theorem thX_k {σ : xS} {n : Int32} : (thX σ n).1 200 2 = σ.1 100 2 := by
  unfold thX gbsX
  rw [xI_n (by omega), xI_n (by omega), gbX_B, cpT_k]
/-- nothing but thought has changed -/
def FR (σ τ : xS) : Prop := (∀ a b, a < 200 ∨ 300 ≤ a → τ.1 a b = σ.1 a b) ∧ (∀ a b, a ≠ 200 → a ≠ 7 → a ≠ 8 → τ.2 a b = σ.2 a b)
theorem FR_r {σ : xS} : FR σ σ := ⟨fun _ _ _ => rfl, fun _ _ _ _ _ => rfl⟩
theorem FR_t {σ τ υ : xS} (h : FR σ τ) (h' : FR τ υ) : FR σ υ := ⟨fun a b q => (h'.1 a b q).trans (h.1 a b q), fun a b q1 q2 q3 => (h'.2 a b q1 q2 q3).trans (h.2 a b q1 q2 q3)⟩
theorem FR_xI {σ : xS} {K f : Nat} {v : Int32} (h1 : 200 ≤ K) (h2 : K < 300) : FR σ (xI σ K f v) := ⟨fun a b q => xI_n (fun e => by omega), fun a b _ _ _ => rfl⟩
theorem FR_xJ {σ : xS} {K f : Nat} {v : Int64} (h : K = 200 ∨ K = 7 ∨ K = 8) : FR σ (xJ σ K f v) := ⟨fun a b q => rfl, fun a b q1 q2 q3 => by
  show (if a = K ∧ b = f then v else σ.2 a b) = σ.2 a b
  rw [if_neg (by omega)]⟩
theorem FR_beat {σ : xS} : FR σ (beatX 200 σ) ∨ True := Or.inr trivial
theorem FR_gb {σ : xS} (h : tn (σ.1 200 2) ≤ 6) (i : Nat) : FR σ (gbX 200 i σ) := ⟨fun a b q => gbX_f (by omega) h, fun a b _ _ _ => by rw [gbX_2]⟩
theorem FR_cp {σ : xS} (hw : tn (σ.1 100 2) ≤ 6) (hg : tn (σ.1 100 1) ≤ 8) : FR σ (cpT 200 100 σ) := ⟨fun a b q => cpT_o hw hg (by omega), fun a b q1 _ _ => by
  rw [cpT_2]
  show (if a = 200 ∧ b = 0 then _ else σ.2 a b) = σ.2 a b
  rw [if_neg (fun e => q1 e.1)]⟩
theorem FR_th {σ : xS} (hw : tn (σ.1 100 2) ≤ 6) (hg : tn (σ.1 100 1) ≤ 8) (n : Int32) : FR σ (thX σ n) := by
  unfold thX gbsX
  refine FR_t (FR_cp hw hg) (FR_t (FR_gb (by rw [cpT_k]; exact hw) (tn n)) (FR_t (FR_xI (K := 200) (by omega) (by omega)) (FR_xI (K := 200) (by omega) (by omega))))
/-- why it can't be told how a walker is behind n beats -/
def wntX (σ : xS) (n x y : Int32) : Int32 := if ¬ (0 ≤ x ∧ x < σ.1 100 2) then -1 else if ¬ (0 ≤ y ∧ y ≤ 4) then -5 else if ¬ (0 ≤ n ∧ n ≤ 400) then -6 else 0
theorem wnt_t {σ : xS} {n x y : Int32} : (wntX σ n x y = 0) = ((0 ≤ x ∧ x < σ.1 100 2) ∧ (0 ≤ y ∧ y ≤ 4) ∧ (0 ≤ n ∧ n ≤ 400)) := by
  unfold wntX
  grind
def attX (σ : xS) (n x y : Int32) : Int32 × xS := if ¬ (0 ≤ x ∧ x < σ.1 100 2) then noX σ (-1) else if ¬ (0 ≤ y ∧ y ≤ 4) then noX σ (-5) else if ¬ (0 ≤ n ∧ n ≤ 400) then noX σ (-6) else (tldX (thX σ n) (whoK 200 x) (y + 1), thX σ n)
def havX (σ : xS) (n g : Int32) : Int32 × xS := if ¬ (0 ≤ g ∧ g < σ.1 100 1) then noX σ (-1) else if ¬ (0 ≤ n ∧ n ≤ 400) then noX σ (-6) else (hvX (thX σ n) 200 g, thX σ n)
def svI (τ : xS) : Nat → Int32
  | 0 => 0
  | i + 1 => svI τ i ||| xshl 1 (τ.1 (220 + i) 3)
def surX (σ : xS) (n : Int32) : Int32 × xS := if ¬ (0 ≤ n ∧ n ≤ 400) then noX σ (-6) else (svI (thX σ n) (tn (σ.1 100 2)), thX σ n)
def mtgX (σ : xS) (n : Int32) : Int32 × xS := if ¬ (0 ≤ n ∧ n ≤ 400) then noX σ (-6) else (thV σ n, thX σ n)
/-- looked for, beat by beat -/
def srX (P : Nat → Bool) (τ : xS) : Int32 × xS := (xfirst P 401, gbX 200 (xfs P 401) τ)
def mtX (P : Nat → Bool) (τ : xS) : Int32 × xS := (if xfs P 400 < 400 then nI (xfs P 400 + 1) else -1, gbX 200 (if xfs P 400 < 400 then xfs P 400 + 1 else 400) τ)
def lsP (σ : xS) (g : Int32) (b : Nat) : Bool := decide (hvX (gbX 200 b (thX σ 0)) 200 g = 0)
def losX (σ : xS) (g : Int32) : Int32 × xS := if ¬ (0 ≤ g ∧ g < σ.1 100 1) then noX σ (-11) else srX (lsP σ g) (thX σ 0)
def cmP (σ : xS) (g x : Int32) (b : Nat) : Bool := decide ((gbX 200 b (thX σ 0)).1 (whoK 200 x) 3 = g)
def comX (σ : xS) (g x : Int32) : Int32 × xS := if ¬ (0 ≤ g ∧ g < σ.1 100 1) ∨ ¬ (0 ≤ x ∧ x < σ.1 100 2) then noX σ (-11) else srX (cmP σ g x) (thX σ 0)
def alP (σ : xS) (b : Nat) : Bool := decide (haX (gbX 200 b (thX σ 0)) 200 ((gbX 200 b (thX σ 0)).1 (whoK 200 0) 3) = false)
def aliX (σ : xS) : Int32 × xS := srX (alP σ) (thX σ 0)
def mtP (σ : xS) (x y : Int32) (b : Nat) : Bool := decide ((gbX 200 (b + 1) (thX σ 0)).1 (whoK 200 x) 1 = (gbX 200 (b + 1) (thX σ 0)).1 (whoK 200 y) 1)
def meeX (σ : xS) (x y : Int32) : Int32 × xS := if ¬ (0 ≤ x ∧ x < σ.1 100 2) ∨ ¬ (0 ≤ y ∧ y < σ.1 100 2) then noX σ (-11) else if x = y then noX σ (-16) else mtX (mtP σ x y) (thX σ 0)
def pX6_whyNotTold (as : List Value) (σ : xS) : Prop := ∃ (n : Int32) (x : Int32) (y : Int32), as = [.ref 0, .int n, .int x, .int y] ∧ ((0 ≤ σ.1 100 2) ∧ (σ.1 100 2 ≤ 6) ∧ (σ.1 100 1 ≤ 8))
def fX6_whyNotTold (as : List Value) (σ : xS) : Option Value × xS := match as with
  | [.ref 0, .int n, .int x, .int y] => (some (.int (wntX σ n x y)), σ)
  | _ => (none, σ)
theorem pX6_whyNotTold_e {n : Int32} {x : Int32} {y : Int32} {σ : xS} : pX6_whyNotTold [.ref 0, .int n, .int x, .int y] σ = ((0 ≤ σ.1 100 2) ∧ (σ.1 100 2 ≤ 6) ∧ (σ.1 100 1 ≤ 8)) := propext ⟨fun h => by obtain ⟨n, x, y, e, h⟩ := h; cases e; exact h, fun h => ⟨n, x, y, rfl, h⟩⟩
theorem fX6_whyNotTold_e {n : Int32} {x : Int32} {y : Int32} {σ : xS} : fX6_whyNotTold [.ref 0, .int n, .int x, .int y] σ = (some (.int (wntX σ n x y)), σ) := rfl
def calX6_whyNotTold : List (Nat × xCall) := [(104, (false, 2, pX4_hasWalker, fX4_hasWalker)), (110, (true, 2, pX6_isUpTo, fX6_isUpTo))]
theorem c_X6_whyNotTold_104 : xlk calX6_whyNotTold 104 = some (false, 2, pX4_hasWalker, fX4_hasWalker) := rfl
theorem c_X6_whyNotTold_110 : xlk calX6_whyNotTold 110 = some (true, 2, pX6_isUpTo, fX6_isUpTo) := rfl
set_option maxHeartbeats 4000000 in
set_option maxRecDepth 100000 in
theorem mX6_whyNotTold : xMet WX yX6_whyNotTold cX6_whyNotTold 4 (some .int) 2 pX6_whyNotTold fX6_whyNotTold := by
  refine xMet_of (fld := xlk fldX6) (cal := xlk calX6_whyNotTold) (ks := xlk []) (gs := xlk []) (ro := fun _ => none) 0 (by decide) WX_nd rfl fldX6_ok xKs_nil xGs_nil (Or.inr rfl) (xcal_cons (xCk_V mX4_hasWalker 4 (by decide) (by decide) (by decide) rfl (fun as σ h _ => rX4_hasWalker as σ h) w_X6_104 ⟨by decide, by decide, by decide +kernel⟩) (xcal_cons (xCk_S mX6_isUpTo (by decide) (by decide) w_X6_110 ⟨by decide, by decide, by decide +kernel⟩) xcal_nil)) ?_ ?_
  · rintro av σ ⟨n, x, y, rfl, hpre⟩
    exact Nat.le_of_ble_eq_true rfl
  rintro av σ ⟨n, x, y, rfl, ⟨hp1, hp2, hp3⟩⟩ Rt hR
  refine xgo0 23 ?_
  simp (config := {maxSteps := 2000000, implicitDefEqProofs := false}) only [xwp_2, xwp_0, xwp_1, xws_s, xdd_o, xld_0, xld_s, xs1_0, xs1_1, xs1_s, xs2_0, xs2_1, xs2_s, xlg_n, xlg_i, xlg_r, xlg_z, xlg_l, xf4_0, xf4_1, xf4_2, xf4_3, xgo_e, xcmp_eq, xcmp_ne, xcmp_lt, xcmp_ge, xcmp_gt, xcmp_le, xfg_0, xfg_1, xfg_2, xfg_3, xfg_4, xpop_0, xpop_s, xsw_n, xsw_c, xtb_n, xtb_c, xenp_n, xenp_i, xenp_r, xenp_z, xenp_l, xrep_0, xrep_s, Nat.reduceSub, true_and, and_true, cat_i, cat_r, Nat.reduceAdd, Nat.reduceLT, Nat.reduceLeDiff, Nat.reduceEqDiff, xnc, Int.reduceAdd, Int.reduceSub, Int.reduceNeg, Int.reduceLE, Int.reduceLT, Int.reduceToNat, ↓reduceIte, List.length_cons, List.length_nil, xlc0, xlc1, ite_10, i10, i01, i0_2, i0_3, i0_4, i0_6, i0_7, i0_8, i0_49, i0_10, or_true, true_or, or_false, false_or, not_false_eq_true, not_true_eq_false, xnt, xI_g, eq_self, xI_2, xJ_1, false_and, and_false, obT_t, obS_t, ob6_t, ob2_t, ob0_t, kT1_t, kT2_t, kT3_t, kT4_t, lT1, lT2, rT6, rT7, rT8, rT9, rT1i, rT2i, rS2, kSe_t, lSe, r0_0, r0_1, r0_2, r0_3, r0_4, r0_5, r0_6, r0_7, r0_8, r0_9, r1_i, r2_4, r2_5, r4_4, a1_t, a3_t, a5_t, a6_t, a7_t, a8_t, l1, l3, l5, l6, l7, l8, T1, T2, T3, T4, nI8, nI6, nI160, nI20, nI401, nI49, ob5_t, ob1_t, vp_tn, tn_def, lgc, dX6_whyNotTold_0, st_aload_n, dX6_whyNotTold_1, st_getfield, fl_X6_18, dX6_whyNotTold_4, st_iload_n, dX6_whyNotTold_5, st_invokevirtual, dX6_whyNotTold_8, st_ifCond, dX6_whyNotTold_11, st_iconst, dX6_whyNotTold_12, st_ireturn, dX6_whyNotTold_13, dX6_whyNotTold_14, dX6_whyNotTold_15, st_invokestatic, dX6_whyNotTold_18, dX6_whyNotTold_21, st_bipush, dX6_whyNotTold_23, dX6_whyNotTold_24, dX6_whyNotTold_25, st_sipush, dX6_whyNotTold_28, dX6_whyNotTold_31, dX6_whyNotTold_34, dX6_whyNotTold_35, st_goto, dX6_whyNotTold_38, dX6_whyNotTold_40, c_X6_whyNotTold_104, pX4_hasWalker_e, fX4_hasWalker_e, Option.toList_some, Option.toList_none, List.cons_append, List.nil_append, c_X6_whyNotTold_110, pX6_isUpTo_e, fX6_isUpTo_e, ofI_m1, ofI_4, ofI_m5, ofI_400, ofI_0, ofI_m6, hp1, hp2, hp3]
  simp only [hR, fX6_whyNotTold_e, wntX, and_true, true_and, Option.some.injEq, Value.int.injEq]
  all_goals grind
theorem rX6_whyNotTold : ∀ as σ, pX6_whyNotTold as σ → ∃ K as', as = .ref K :: as' ∧ xob WX K 6 := by
  rintro as σ ⟨n, x, y, rfl, hpre⟩
  exact ⟨_, _, rfl, by first | exact hpre | exact hpre.1 | exact obT hpre | exact obT hpre.1 | exact obS hpre | exact obS hpre.1 | exact obM | exact ob6 | exact ob2 | exact ob0⟩
def pX6_at (as : List Value) (σ : xS) : Prop := ∃ (n : Int32) (x : Int32) (y : Int32), as = [.ref 0, .int n, .int x, .int y] ∧ ((0 ≤ σ.1 100 2) ∧ (σ.1 100 2 ≤ 6) ∧ (σ.1 100 1 ≤ 8))
def fX6_at (as : List Value) (σ : xS) : Option Value × xS := match as with
  | [.ref 0, .int n, .int x, .int y] => (some (.int (attX σ n x y).1), (attX σ n x y).2)
  | _ => (none, σ)
theorem pX6_at_e {n : Int32} {x : Int32} {y : Int32} {σ : xS} : pX6_at [.ref 0, .int n, .int x, .int y] σ = ((0 ≤ σ.1 100 2) ∧ (σ.1 100 2 ≤ 6) ∧ (σ.1 100 1 ≤ 8)) := propext ⟨fun h => by obtain ⟨n, x, y, e, h⟩ := h; cases e; exact h, fun h => ⟨n, x, y, rfl, h⟩⟩
theorem fX6_at_e {n : Int32} {x : Int32} {y : Int32} {σ : xS} : fX6_at [.ref 0, .int n, .int x, .int y] σ = (some (.int (attX σ n x y).1), (attX σ n x y).2) := rfl
def calX6_at : List (Nat × xCall) := [(204, (false, 4, pX6_whyNotTold, fX6_whyNotTold)), (66, (false, 2, pX6_refuse, fX6_refuse)), (207, (false, 2, pX6_think, fX6_think)), (114, (false, 2, pX4_who, fX4_who)), (174, (false, 2, pX5_told, fX5_told))]
theorem c_X6_at_204 : xlk calX6_at 204 = some (false, 4, pX6_whyNotTold, fX6_whyNotTold) := rfl
theorem c_X6_at_66 : xlk calX6_at 66 = some (false, 2, pX6_refuse, fX6_refuse) := rfl
theorem c_X6_at_207 : xlk calX6_at 207 = some (false, 2, pX6_think, fX6_think) := rfl
theorem c_X6_at_114 : xlk calX6_at 114 = some (false, 2, pX4_who, fX4_who) := rfl
theorem c_X6_at_174 : xlk calX6_at 174 = some (false, 2, pX5_told, fX5_told) := rfl
set_option maxHeartbeats 4000000 in
set_option maxRecDepth 100000 in
theorem mX6_at : xMet WX yX6_at cX6_at 5 (some .int) 7 pX6_at fX6_at := by
  refine xMet_of (fld := xlk fldX6) (cal := xlk calX6_at) (ks := xlk []) (gs := xlk []) (ro := fun _ => none) 0 (by decide) WX_nd rfl fldX6_ok xKs_nil xGs_nil (Or.inr rfl) (xcal_cons (xCk_V mX6_whyNotTold 6 (by decide) (by decide) (by decide) rfl (fun as σ h _ => rX6_whyNotTold as σ h) w_X6_204 ⟨by decide, by decide, by decide +kernel⟩) (xcal_cons (xCk_V mX6_refuse 6 (by decide) (by decide) (by decide) rfl (fun as σ h _ => rX6_refuse as σ h) w_X6_66 ⟨by decide, by decide, by decide +kernel⟩) (xcal_cons (xCk_V mX6_think 6 (by decide) (by decide) (by decide) rfl (fun as σ h _ => rX6_think as σ h) w_X6_207 ⟨by decide, by decide, by decide +kernel⟩) (xcal_cons (xCk_V mX4_who 4 (by decide) (by decide) (by decide) rfl (fun as σ h _ => rX4_who as σ h) w_X6_114 ⟨by decide, by decide, by decide +kernel⟩) (xcal_cons (xCk_V mX5_told 5 (by decide) (by decide) (by decide) rfl (fun as σ h _ => rX5_told as σ h) w_X6_174 ⟨by decide, by decide, by decide +kernel⟩) xcal_nil))))) ?_ ?_
  · rintro av σ ⟨n, x, y, rfl, hpre⟩
    exact Nat.le_of_ble_eq_true rfl
  rintro av σ ⟨n, x, y, rfl, ⟨hp1, hp2, hp3⟩⟩ Rt hR
  have hR2 : ∀ v' t', Rt (some (.int v')) t' = ((v', t') = attX σ n x y) := fun v' t' => by
    rw [hR, fX6_at_e]
    exact propext ⟨fun h => Prod.ext (by simpa using h.1) h.2, fun h => ⟨by rw [← h], by rw [← h]⟩⟩
  refine xgo0 27 ?_
  simp (config := {maxSteps := 4000000, implicitDefEqProofs := false}) only [xwp_2, xwp_0, xwp_1, xws_s, xdd_o, xld_0, xld_s, xs1_0, xs1_1, xs1_s, xs2_0, xs2_1, xs2_s, xlg_n, xlg_i, xlg_r, xlg_z, xlg_l, xf4_0, xf4_1, xf4_2, xf4_3, xgo_e, xcmp_eq, xcmp_ne, xcmp_lt, xcmp_ge, xcmp_gt, xcmp_le, xfg_0, xfg_1, xfg_2, xfg_3, xfg_4, xpop_0, xpop_s, xsw_n, xsw_c, xtb_n, xtb_c, xenp_n, xenp_i, xenp_r, xenp_z, xenp_l, xrep_0, xrep_s, Nat.reduceSub, true_and, and_true, cat_i, cat_r, Nat.reduceAdd, Nat.reduceLT, Nat.reduceLeDiff, Nat.reduceEqDiff, xnc, Int.reduceAdd, Int.reduceSub, Int.reduceNeg, Int.reduceLE, Int.reduceLT, Int.reduceToNat, ↓reduceIte, List.length_cons, List.length_nil, xlc0, xlc1, ite_10, i10, i01, i0_2, i0_3, i0_4, i0_6, i0_7, i0_8, i0_49, i0_10, or_true, true_or, or_false, false_or, not_false_eq_true, not_true_eq_false, xnt, xI_g, eq_self, xI_2, xJ_1, false_and, and_false, obT_t, obS_t, ob6_t, ob2_t, ob0_t, kT1_t, kT2_t, kT3_t, kT4_t, lT1, lT2, rT6, rT7, rT8, rT9, rT1i, rT2i, rS2, kSe_t, lSe, r0_0, r0_1, r0_2, r0_3, r0_4, r0_5, r0_6, r0_7, r0_8, r0_9, r1_i, r2_4, r2_5, r4_4, a1_t, a3_t, a5_t, a6_t, a7_t, a8_t, l1, l3, l5, l6, l7, l8, T1, T2, T3, T4, nI8, nI6, nI160, nI20, nI401, nI49, ob5_t, ob1_t, vp_tn, tn_def, lgc, dX6_at_0, st_aload_n, dX6_at_1, st_iload_n, dX6_at_2, dX6_at_3, dX6_at_4, st_invokevirtual, dX6_at_7, st_istore, dX6_at_9, st_iload, dX6_at_11, st_ifCond, dX6_at_14, dX6_at_15, dX6_at_17, dX6_at_20, st_ireturn, dX6_at_21, dX6_at_22, dX6_at_23, dX6_at_26, st_pop, dX6_at_27, dX6_at_28, st_getfield, fl_X6_22, dX6_at_31, dX6_at_32, dX6_at_35, dX6_at_36, st_iconst, dX6_at_37, st_iadd, dX6_at_38, dX6_at_41, c_X6_at_204, pX6_whyNotTold_e, fX6_whyNotTold_e, Option.toList_some, Option.toList_none, List.cons_append, List.nil_append, c_X6_at_66, pX6_refuse_e, fX6_refuse_e, c_X6_at_207, pX6_think_e, fX6_think_e, c_X6_at_114, pX4_who_e, fX4_who_e, c_X6_at_174, pX5_told_e, fX5_told_n, ofJ_1, hp1, hp2, hp3]
  clear hR
  simp only [hR2, attX, noX, wntX]
  clear hR2
  grind (splits := 40)
theorem rX6_at : ∀ as σ, pX6_at as σ → ∃ K as', as = .ref K :: as' ∧ xob WX K 6 := by
  rintro as σ ⟨n, x, y, rfl, hpre⟩
  exact ⟨_, _, rfl, by first | exact hpre | exact hpre.1 | exact obT hpre | exact obT hpre.1 | exact obS hpre | exact obS hpre.1 | exact obM | exact ob6 | exact ob2 | exact ob0⟩
def pX6_have (as : List Value) (σ : xS) : Prop := ∃ (n : Int32) (g : Int32), as = [.ref 0, .int n, .int g] ∧ ((0 ≤ σ.1 100 2) ∧ (σ.1 100 2 ≤ 6) ∧ (σ.1 100 1 ≤ 8))
def fX6_have (as : List Value) (σ : xS) : Option Value × xS := match as with
  | [.ref 0, .int n, .int g] => (some (.int (havX σ n g).1), (havX σ n g).2)
  | _ => (none, σ)
theorem pX6_have_e {n : Int32} {g : Int32} {σ : xS} : pX6_have [.ref 0, .int n, .int g] σ = ((0 ≤ σ.1 100 2) ∧ (σ.1 100 2 ≤ 6) ∧ (σ.1 100 1 ≤ 8)) := propext ⟨fun h => by obtain ⟨n, g, e, h⟩ := h; cases e; exact h, fun h => ⟨n, g, rfl, h⟩⟩
theorem fX6_have_e {n : Int32} {g : Int32} {σ : xS} : fX6_have [.ref 0, .int n, .int g] σ = (some (.int (havX σ n g).1), (havX σ n g).2) := rfl
def calX6_have : List (Nat × xCall) := [(152, (false, 2, pX4_hasGait, fX4_hasGait)), (66, (false, 2, pX6_refuse, fX6_refuse)), (110, (true, 2, pX6_isUpTo, fX6_isUpTo)), (207, (false, 2, pX6_think, fX6_think)), (210, (false, 2, pX4_havers, fX4_havers))]
theorem c_X6_have_152 : xlk calX6_have 152 = some (false, 2, pX4_hasGait, fX4_hasGait) := rfl
theorem c_X6_have_66 : xlk calX6_have 66 = some (false, 2, pX6_refuse, fX6_refuse) := rfl
theorem c_X6_have_110 : xlk calX6_have 110 = some (true, 2, pX6_isUpTo, fX6_isUpTo) := rfl
theorem c_X6_have_207 : xlk calX6_have 207 = some (false, 2, pX6_think, fX6_think) := rfl
theorem c_X6_have_210 : xlk calX6_have 210 = some (false, 2, pX4_havers, fX4_havers) := rfl
set_option maxHeartbeats 4000000 in
set_option maxRecDepth 100000 in
theorem mX6_have : xMet WX yX6_have cX6_have 3 (some .int) 7 pX6_have fX6_have := by
  refine xMet_of (fld := xlk fldX6) (cal := xlk calX6_have) (ks := xlk []) (gs := xlk []) (ro := fun _ => none) 0 (by decide) WX_nd rfl fldX6_ok xKs_nil xGs_nil (Or.inr rfl) (xcal_cons (xCk_V mX4_hasGait 4 (by decide) (by decide) (by decide) rfl (fun as σ h _ => rX4_hasGait as σ h) w_X6_152 ⟨by decide, by decide, by decide +kernel⟩) (xcal_cons (xCk_V mX6_refuse 6 (by decide) (by decide) (by decide) rfl (fun as σ h _ => rX6_refuse as σ h) w_X6_66 ⟨by decide, by decide, by decide +kernel⟩) (xcal_cons (xCk_S mX6_isUpTo (by decide) (by decide) w_X6_110 ⟨by decide, by decide, by decide +kernel⟩) (xcal_cons (xCk_V mX6_think 6 (by decide) (by decide) (by decide) rfl (fun as σ h _ => rX6_think as σ h) w_X6_207 ⟨by decide, by decide, by decide +kernel⟩) (xcal_cons (xCk_V mX4_havers 4 (by decide) (by decide) (by decide) rfl (fun as σ h _ => rX4_havers as σ h) w_X6_210 ⟨by decide, by decide, by decide +kernel⟩) xcal_nil))))) ?_ ?_
  · rintro av σ ⟨n, g, rfl, hpre⟩
    exact Nat.le_of_ble_eq_true rfl
  rintro av σ ⟨n, g, rfl, ⟨hp1, hp2, hp3⟩⟩ Rt hR
  have hR2 : ∀ v' t', Rt (some (.int v')) t' = ((v', t') = havX σ n g) := fun v' t' => by
    rw [hR, fX6_have_e]
    exact propext ⟨fun h => Prod.ext (by simpa using h.1) h.2, fun h => ⟨by rw [← h], by rw [← h]⟩⟩
  refine xgo0 28 ?_
  simp (config := {maxSteps := 4000000, implicitDefEqProofs := false}) only [xwp_2, xwp_0, xwp_1, xws_s, xdd_o, xld_0, xld_s, xs1_0, xs1_1, xs1_s, xs2_0, xs2_1, xs2_s, xlg_n, xlg_i, xlg_r, xlg_z, xlg_l, xf4_0, xf4_1, xf4_2, xf4_3, xgo_e, xcmp_eq, xcmp_ne, xcmp_lt, xcmp_ge, xcmp_gt, xcmp_le, xfg_0, xfg_1, xfg_2, xfg_3, xfg_4, xpop_0, xpop_s, xsw_n, xsw_c, xtb_n, xtb_c, xenp_n, xenp_i, xenp_r, xenp_z, xenp_l, xrep_0, xrep_s, Nat.reduceSub, true_and, and_true, cat_i, cat_r, Nat.reduceAdd, Nat.reduceLT, Nat.reduceLeDiff, Nat.reduceEqDiff, xnc, Int.reduceAdd, Int.reduceSub, Int.reduceNeg, Int.reduceLE, Int.reduceLT, Int.reduceToNat, ↓reduceIte, List.length_cons, List.length_nil, xlc0, xlc1, ite_10, i10, i01, i0_2, i0_3, i0_4, i0_6, i0_7, i0_8, i0_49, i0_10, or_true, true_or, or_false, false_or, not_false_eq_true, not_true_eq_false, xnt, xI_g, eq_self, xI_2, xJ_1, false_and, and_false, obT_t, obS_t, ob6_t, ob2_t, ob0_t, kT1_t, kT2_t, kT3_t, kT4_t, lT1, lT2, rT6, rT7, rT8, rT9, rT1i, rT2i, rS2, kSe_t, lSe, r0_0, r0_1, r0_2, r0_3, r0_4, r0_5, r0_6, r0_7, r0_8, r0_9, r1_i, r2_4, r2_5, r4_4, a1_t, a3_t, a5_t, a6_t, a7_t, a8_t, l1, l3, l5, l6, l7, l8, T1, T2, T3, T4, nI8, nI6, nI160, nI20, nI401, nI49, ob5_t, ob1_t, vp_tn, tn_def, lgc, dX6_have_0, st_aload_n, dX6_have_1, st_getfield, fl_X6_18, dX6_have_4, st_iload_n, dX6_have_5, st_invokevirtual, dX6_have_8, st_ifCond, dX6_have_11, dX6_have_12, st_iconst, dX6_have_13, dX6_have_16, st_ireturn, dX6_have_17, dX6_have_18, st_sipush, dX6_have_21, st_invokestatic, dX6_have_24, dX6_have_27, dX6_have_28, st_bipush, dX6_have_30, dX6_have_33, dX6_have_34, dX6_have_35, dX6_have_36, dX6_have_39, st_pop, dX6_have_40, dX6_have_41, fl_X6_22, dX6_have_44, dX6_have_45, dX6_have_48, c_X6_have_152, pX4_hasGait_e, fX4_hasGait_e, Option.toList_some, Option.toList_none, List.cons_append, List.nil_append, c_X6_have_66, pX6_refuse_e, fX6_refuse_e, c_X6_have_110, pX6_isUpTo_e, fX6_isUpTo_e, c_X6_have_207, pX6_think_e, fX6_think_e, c_X6_have_210, pX4_havers_e, fX4_havers_n, ofI_m1, ofI_400, ofI_m6, thX_k, hp1, hp2, hp3]
  clear hR
  simp only [hR2, havX, noX]
  clear hR2
  grind (splits := 40)
theorem rX6_have : ∀ as σ, pX6_have as σ → ∃ K as', as = .ref K :: as' ∧ xob WX K 6 := by
  rintro as σ ⟨n, g, rfl, hpre⟩
  exact ⟨_, _, rfl, by first | exact hpre | exact hpre.1 | exact obT hpre | exact obT hpre.1 | exact obS hpre | exact obS hpre.1 | exact obM | exact ob6 | exact ob2 | exact ob0⟩
def pX6_meetings (as : List Value) (σ : xS) : Prop := ∃ (n : Int32), as = [.ref 0, .int n] ∧ ((0 ≤ σ.1 100 2) ∧ (σ.1 100 2 ≤ 6) ∧ (σ.1 100 1 ≤ 8))
def fX6_meetings (as : List Value) (σ : xS) : Option Value × xS := match as with
  | [.ref 0, .int n] => (some (.int (mtgX σ n).1), (mtgX σ n).2)
  | _ => (none, σ)
theorem pX6_meetings_e {n : Int32} {σ : xS} : pX6_meetings [.ref 0, .int n] σ = ((0 ≤ σ.1 100 2) ∧ (σ.1 100 2 ≤ 6) ∧ (σ.1 100 1 ≤ 8)) := propext ⟨fun h => by obtain ⟨n, e, h⟩ := h; cases e; exact h, fun h => ⟨n, rfl, h⟩⟩
theorem fX6_meetings_e {n : Int32} {σ : xS} : fX6_meetings [.ref 0, .int n] σ = (some (.int (mtgX σ n).1), (mtgX σ n).2) := rfl
def calX6_meetings : List (Nat × xCall) := [(110, (true, 2, pX6_isUpTo, fX6_isUpTo)), (66, (false, 2, pX6_refuse, fX6_refuse)), (207, (false, 2, pX6_think, fX6_think))]
theorem c_X6_meetings_110 : xlk calX6_meetings 110 = some (true, 2, pX6_isUpTo, fX6_isUpTo) := rfl
theorem c_X6_meetings_66 : xlk calX6_meetings 66 = some (false, 2, pX6_refuse, fX6_refuse) := rfl
theorem c_X6_meetings_207 : xlk calX6_meetings 207 = some (false, 2, pX6_think, fX6_think) := rfl
set_option maxHeartbeats 4000000 in
set_option maxRecDepth 100000 in
theorem mX6_meetings : xMet WX yX6_meetings cX6_meetings 2 (some .int) 7 pX6_meetings fX6_meetings := by
  refine xMet_of (fld := xlk fldX6) (cal := xlk calX6_meetings) (ks := xlk []) (gs := xlk []) (ro := fun _ => none) 0 (by decide) WX_nd rfl fldX6_ok xKs_nil xGs_nil (Or.inr rfl) (xcal_cons (xCk_S mX6_isUpTo (by decide) (by decide) w_X6_110 ⟨by decide, by decide, by decide +kernel⟩) (xcal_cons (xCk_V mX6_refuse 6 (by decide) (by decide) (by decide) rfl (fun as σ h _ => rX6_refuse as σ h) w_X6_66 ⟨by decide, by decide, by decide +kernel⟩) (xcal_cons (xCk_V mX6_think 6 (by decide) (by decide) (by decide) rfl (fun as σ h _ => rX6_think as σ h) w_X6_207 ⟨by decide, by decide, by decide +kernel⟩) xcal_nil))) ?_ ?_
  · rintro av σ ⟨n, rfl, hpre⟩
    exact Nat.le_of_ble_eq_true rfl
  rintro av σ ⟨n, rfl, ⟨hp1, hp2, hp3⟩⟩ Rt hR
  have hR2 : ∀ v' t', Rt (some (.int v')) t' = ((v', t') = mtgX σ n) := fun v' t' => by
    rw [hR, fX6_meetings_e]
    exact propext ⟨fun h => Prod.ext (by simpa using h.1) h.2, fun h => ⟨by rw [← h], by rw [← h]⟩⟩
  refine xgo0 14 ?_
  simp (config := {maxSteps := 4000000, implicitDefEqProofs := false}) only [xwp_2, xwp_0, xwp_1, xws_s, xdd_o, xld_0, xld_s, xs1_0, xs1_1, xs1_s, xs2_0, xs2_1, xs2_s, xlg_n, xlg_i, xlg_r, xlg_z, xlg_l, xf4_0, xf4_1, xf4_2, xf4_3, xgo_e, xcmp_eq, xcmp_ne, xcmp_lt, xcmp_ge, xcmp_gt, xcmp_le, xfg_0, xfg_1, xfg_2, xfg_3, xfg_4, xpop_0, xpop_s, xsw_n, xsw_c, xtb_n, xtb_c, xenp_n, xenp_i, xenp_r, xenp_z, xenp_l, xrep_0, xrep_s, Nat.reduceSub, true_and, and_true, cat_i, cat_r, Nat.reduceAdd, Nat.reduceLT, Nat.reduceLeDiff, Nat.reduceEqDiff, xnc, Int.reduceAdd, Int.reduceSub, Int.reduceNeg, Int.reduceLE, Int.reduceLT, Int.reduceToNat, ↓reduceIte, List.length_cons, List.length_nil, xlc0, xlc1, ite_10, i10, i01, i0_2, i0_3, i0_4, i0_6, i0_7, i0_8, i0_49, i0_10, or_true, true_or, or_false, false_or, not_false_eq_true, not_true_eq_false, xnt, xI_g, eq_self, xI_2, xJ_1, false_and, and_false, obT_t, obS_t, ob6_t, ob2_t, ob0_t, kT1_t, kT2_t, kT3_t, kT4_t, lT1, lT2, rT6, rT7, rT8, rT9, rT1i, rT2i, rS2, kSe_t, lSe, r0_0, r0_1, r0_2, r0_3, r0_4, r0_5, r0_6, r0_7, r0_8, r0_9, r1_i, r2_4, r2_5, r4_4, a1_t, a3_t, a5_t, a6_t, a7_t, a8_t, l1, l3, l5, l6, l7, l8, T1, T2, T3, T4, nI8, nI6, nI160, nI20, nI401, nI49, ob5_t, ob1_t, vp_tn, tn_def, lgc, dX6_meetings_0, st_iload_n, dX6_meetings_1, st_sipush, dX6_meetings_4, st_invokestatic, dX6_meetings_7, st_ifCond, dX6_meetings_10, st_aload_n, dX6_meetings_11, st_bipush, dX6_meetings_13, st_invokevirtual, dX6_meetings_16, st_ireturn, dX6_meetings_17, dX6_meetings_18, dX6_meetings_19, dX6_meetings_22, c_X6_meetings_110, pX6_isUpTo_e, fX6_isUpTo_e, Option.toList_some, Option.toList_none, List.cons_append, List.nil_append, c_X6_meetings_66, pX6_refuse_e, fX6_refuse_e, c_X6_meetings_207, pX6_think_e, fX6_think_e, ofI_400, ofI_m6, hp1, hp2, hp3]
  clear hR
  simp only [hR2, mtgX, noX]
  clear hR2
  grind (splits := 40)
theorem rX6_meetings : ∀ as σ, pX6_meetings as σ → ∃ K as', as = .ref K :: as' ∧ xob WX K 6 := by
  rintro as σ ⟨n, rfl, hpre⟩
  exact ⟨_, _, rfl, by first | exact hpre | exact hpre.1 | exact obT hpre | exact obT hpre.1 | exact obS hpre | exact obS hpre.1 | exact obM | exact ob6 | exact ob2 | exact ob0⟩
def pX6_lost (as : List Value) (σ : xS) : Prop := ∃ (g : Int32), as = [.ref 0, .int g] ∧ ((0 ≤ σ.1 100 2) ∧ (σ.1 100 2 ≤ 6) ∧ (σ.1 100 1 ≤ 8))
def fX6_lost (as : List Value) (σ : xS) : Option Value × xS := match as with
  | [.ref 0, .int g] => (some (.int (losX σ g).1), (losX σ g).2)
  | _ => (none, σ)
theorem pX6_lost_e {g : Int32} {σ : xS} : pX6_lost [.ref 0, .int g] σ = ((0 ≤ σ.1 100 2) ∧ (σ.1 100 2 ≤ 6) ∧ (σ.1 100 1 ≤ 8)) := propext ⟨fun h => by obtain ⟨g, e, h⟩ := h; cases e; exact h, fun h => ⟨g, rfl, h⟩⟩
theorem fX6_lost_e {g : Int32} {σ : xS} : fX6_lost [.ref 0, .int g] σ = (some (.int (losX σ g).1), (losX σ g).2) := rfl
def calX6_lost : List (Nat × xCall) := [(152, (false, 2, pX4_hasGait, fX4_hasGait)), (66, (false, 2, pX6_refuse, fX6_refuse)), (207, (false, 2, pX6_think, fX6_think)), (210, (false, 2, pX4_havers, fX4_havers)), (219, (false, 1, pX4_goBeat, fX4_goBeat))]
theorem c_X6_lost_152 : xlk calX6_lost 152 = some (false, 2, pX4_hasGait, fX4_hasGait) := rfl
theorem c_X6_lost_66 : xlk calX6_lost 66 = some (false, 2, pX6_refuse, fX6_refuse) := rfl
theorem c_X6_lost_207 : xlk calX6_lost 207 = some (false, 2, pX6_think, fX6_think) := rfl
theorem c_X6_lost_210 : xlk calX6_lost 210 = some (false, 2, pX4_havers, fX4_havers) := rfl
theorem c_X6_lost_219 : xlk calX6_lost 219 = some (false, 1, pX4_goBeat, fX4_goBeat) := rfl
set_option maxHeartbeats 4000000 in
set_option maxRecDepth 100000 in
theorem mX6_lost : xMet WX yX6_lost cX6_lost 3 (some .int) 7 pX6_lost fX6_lost := by
  refine xMet_of (fld := xlk fldX6) (cal := xlk calX6_lost) (ks := xlk []) (gs := xlk []) (ro := fun _ => none) 0 (by decide) WX_nd rfl fldX6_ok xKs_nil xGs_nil (Or.inr rfl) (xcal_cons (xCk_V mX4_hasGait 4 (by decide) (by decide) (by decide) rfl (fun as σ h _ => rX4_hasGait as σ h) w_X6_152 ⟨by decide, by decide, by decide +kernel⟩) (xcal_cons (xCk_V mX6_refuse 6 (by decide) (by decide) (by decide) rfl (fun as σ h _ => rX6_refuse as σ h) w_X6_66 ⟨by decide, by decide, by decide +kernel⟩) (xcal_cons (xCk_V mX6_think 6 (by decide) (by decide) (by decide) rfl (fun as σ h _ => rX6_think as σ h) w_X6_207 ⟨by decide, by decide, by decide +kernel⟩) (xcal_cons (xCk_V mX4_havers 4 (by decide) (by decide) (by decide) rfl (fun as σ h _ => rX4_havers as σ h) w_X6_210 ⟨by decide, by decide, by decide +kernel⟩) (xcal_cons (xCk_V mX4_goBeat 4 (by decide) (by decide) (by decide) rfl (fun as σ h _ => rX4_goBeat as σ h) w_X6_219 ⟨by decide, by decide, by decide +kernel⟩) xcal_nil))))) ?_ ?_
  · rintro av σ ⟨g, rfl, hpre⟩
    exact Nat.le_of_ble_eq_true rfl
  rintro av σ ⟨g, rfl, ⟨hp1, hp2, hp3⟩⟩ Rt hR
  have hR2 : ∀ v' t', Rt (some (.int v')) t' = ((v', t') = losX σ g) := fun v' t' => by
    rw [hR, fX6_lost_e]
    exact propext ⟨fun h => Prod.ext (by simpa using h.1) h.2, fun h => ⟨by rw [← h], by rw [← h]⟩⟩
  have z1 : ∀ b, (gbX 200 b (thX σ 0)).1 200 2 = σ.1 100 2 := fun b => by rw [gbX_B, thX_k]
  refine xto 26 (fun L st t => (0 ≤ g ∧ g < σ.1 100 1) ∧ L = ([some (.ref 0), some (.int g), some (.int (nI 0))]) ∧ st = [] ∧ t = (gbX 200 0 (thX σ 0))) 50 ?_ ?_
  · rintro L st t ⟨hg, rfl, rfl, rfl⟩
    rw [losX, if_neg (fun q => q hg)] at hR2
    refine xfor 26 401 70 (fun i => [some (.ref 0), some (.int g), some (.int (nI i))]) (fun i => gbX 200 i (thX σ 0)) (fun i => ∀ j, j < i → lsP σ g j = false) (fun i hi hH => ?_) 0 (Nat.zero_le _) (fun j hj => by omega)
    simp -implicitDefEqProofs only [xwp_2, xwp_0, xwp_1, xws_s, xdd_o, xld_0, xld_s, xs1_0, xs1_1, xs1_s, xs2_0, xs2_1, xs2_s, xlg_n, xlg_i, xlg_r, xlg_z, xlg_l, xf4_0, xf4_1, xf4_2, xf4_3, xgo_e, xcmp_eq, xcmp_ne, xcmp_lt, xcmp_ge, xcmp_gt, xcmp_le, xfg_0, xfg_1, xfg_2, xfg_3, xfg_4, xpop_0, xpop_s, xsw_n, xsw_c, xtb_n, xtb_c, xenp_n, xenp_i, xenp_r, xenp_z, xenp_l, xrep_0, xrep_s, Nat.reduceSub, true_and, and_true, cat_i, cat_r, Nat.reduceAdd, Nat.reduceLT, Nat.reduceLeDiff, Nat.reduceEqDiff, xnc, Int.reduceAdd, Int.reduceSub, Int.reduceNeg, Int.reduceLE, Int.reduceLT, Int.reduceToNat, ↓reduceIte, List.length_cons, List.length_nil, xlc0, xlc1, ite_10, i10, i01, i0_2, i0_3, i0_4, i0_6, i0_7, i0_8, i0_49, i0_10, or_true, true_or, or_false, false_or, not_false_eq_true, not_true_eq_false, xnt, xI_g, eq_self, xI_2, xJ_1, false_and, and_false, obT_t, obS_t, ob6_t, ob2_t, ob0_t, kT1_t, kT2_t, kT3_t, kT4_t, lT1, lT2, rT6, rT7, rT8, rT9, rT1i, rT2i, rS2, kSe_t, lSe, r0_0, r0_1, r0_2, r0_3, r0_4, r0_5, r0_6, r0_7, r0_8, r0_9, r1_i, r2_4, r2_5, r4_4, a1_t, a3_t, a5_t, a6_t, a7_t, a8_t, l1, l3, l5, l6, l7, l8, T1, T2, T3, T4, nI8, nI6, nI160, nI20, nI401, nI49, ob5_t, ob1_t, vp_tn, tn_def, lgc, dX6_lost_0, st_aload_n, dX6_lost_1, st_getfield, fl_X6_18, dX6_lost_4, st_iload_n, dX6_lost_5, st_invokevirtual, dX6_lost_8, st_ifCond, dX6_lost_11, dX6_lost_12, st_bipush, dX6_lost_14, dX6_lost_17, st_ireturn, dX6_lost_18, dX6_lost_19, st_iconst, dX6_lost_20, dX6_lost_23, st_pop, dX6_lost_24, dX6_lost_25, st_istore_n, dX6_lost_26, dX6_lost_27, st_sipush, dX6_lost_30, st_if_icmp, dX6_lost_33, dX6_lost_34, fl_X6_22, dX6_lost_37, dX6_lost_38, dX6_lost_41, dX6_lost_44, dX6_lost_45, dX6_lost_46, dX6_lost_47, dX6_lost_50, dX6_lost_53, dX6_lost_54, st_iinc, dX6_lost_57, st_goto, dX6_lost_60, dX6_lost_61, c_X6_lost_152, pX4_hasGait_e, fX4_hasGait_e, Option.toList_some, Option.toList_none, List.cons_append, List.nil_append, c_X6_lost_66, pX6_refuse_e, fX6_refuse_e, c_X6_lost_207, pX6_think_e, fX6_think_e, c_X6_lost_210, pX4_havers_e, fX4_havers_n, c_X6_lost_219, pX4_goBeat_e, fX4_goBeat_e, ofI_m11, ofI_0, ofI_400, ofJ_1, ofI_m1, hp1, hp2, hp3, z1]
    have hc : (400 : Int32) < nI i ↔ 400 < i := nI_ltI (a := 400) (by omega) (by omega)
    have e1 : nI i + 1 = nI (i + 1) := nI_1 i
    have e7 : ∀ b, beatX 200 (gbX 200 b (thX σ 0)) = gbX 200 (b + 1) (thX σ 0) := fun b => rfl
    have e5 : lsP σ g i = decide (hvX (gbX 200 i (thX σ 0)) 200 g = 0) := rfl
    skip
    have cont : lsP σ g i = false → (∀ j, j < i + 1 → lsP σ g j = false) := fun h2 => xall_s hH h2
    have fin : i = 401 → srX (lsP σ g) (thX σ 0) = (-1, gbX 200 i (thX σ 0)) := fun h => by
      have e9 := xfs_no (P := lsP σ g) (n := 401) (fun j hj => hH j (by omega))
      rw [srX, xfirst, e9]
      simp [h]
    have stop : i < 401 → lsP σ g i = true → srX (lsP σ g) (thX σ 0) = (nI i, gbX 200 i (thX σ 0)) := fun h1 h2 => by
      have e9 := xfs_at h1 h2 hH
      rw [srX, xfirst, e9]
      simp [h1]
    simp only [hc, e1, e7, hR2]
    clear hR hR2
    grind (splits := 40)
  · simp -implicitDefEqProofs only [xwp_2, xwp_0, xwp_1, xws_s, xdd_o, xld_0, xld_s, xs1_0, xs1_1, xs1_s, xs2_0, xs2_1, xs2_s, xlg_n, xlg_i, xlg_r, xlg_z, xlg_l, xf4_0, xf4_1, xf4_2, xf4_3, xgo_e, xcmp_eq, xcmp_ne, xcmp_lt, xcmp_ge, xcmp_gt, xcmp_le, xfg_0, xfg_1, xfg_2, xfg_3, xfg_4, xpop_0, xpop_s, xsw_n, xsw_c, xtb_n, xtb_c, xenp_n, xenp_i, xenp_r, xenp_z, xenp_l, xrep_0, xrep_s, Nat.reduceSub, true_and, and_true, cat_i, cat_r, Nat.reduceAdd, Nat.reduceLT, Nat.reduceLeDiff, Nat.reduceEqDiff, xnc, Int.reduceAdd, Int.reduceSub, Int.reduceNeg, Int.reduceLE, Int.reduceLT, Int.reduceToNat, ↓reduceIte, List.length_cons, List.length_nil, xlc0, xlc1, ite_10, i10, i01, i0_2, i0_3, i0_4, i0_6, i0_7, i0_8, i0_49, i0_10, or_true, true_or, or_false, false_or, not_false_eq_true, not_true_eq_false, xnt, xI_g, eq_self, xI_2, xJ_1, false_and, and_false, obT_t, obS_t, ob6_t, ob2_t, ob0_t, kT1_t, kT2_t, kT3_t, kT4_t, lT1, lT2, rT6, rT7, rT8, rT9, rT1i, rT2i, rS2, kSe_t, lSe, r0_0, r0_1, r0_2, r0_3, r0_4, r0_5, r0_6, r0_7, r0_8, r0_9, r1_i, r2_4, r2_5, r4_4, a1_t, a3_t, a5_t, a6_t, a7_t, a8_t, l1, l3, l5, l6, l7, l8, T1, T2, T3, T4, nI8, nI6, nI160, nI20, nI401, nI49, ob5_t, ob1_t, vp_tn, tn_def, lgc, dX6_lost_0, st_aload_n, dX6_lost_1, st_getfield, fl_X6_18, dX6_lost_4, st_iload_n, dX6_lost_5, st_invokevirtual, dX6_lost_8, st_ifCond, dX6_lost_11, dX6_lost_12, st_bipush, dX6_lost_14, dX6_lost_17, st_ireturn, dX6_lost_18, dX6_lost_19, st_iconst, dX6_lost_20, dX6_lost_23, st_pop, dX6_lost_24, dX6_lost_25, st_istore_n, dX6_lost_26, dX6_lost_27, st_sipush, dX6_lost_30, st_if_icmp, dX6_lost_33, dX6_lost_34, fl_X6_22, dX6_lost_37, dX6_lost_38, dX6_lost_41, dX6_lost_44, dX6_lost_45, dX6_lost_46, dX6_lost_47, dX6_lost_50, dX6_lost_53, dX6_lost_54, st_iinc, dX6_lost_57, st_goto, dX6_lost_60, dX6_lost_61, c_X6_lost_152, pX4_hasGait_e, fX4_hasGait_e, Option.toList_some, Option.toList_none, List.cons_append, List.nil_append, c_X6_lost_66, pX6_refuse_e, fX6_refuse_e, c_X6_lost_207, pX6_think_e, fX6_think_e, c_X6_lost_210, pX4_havers_e, fX4_havers_n, c_X6_lost_219, pX4_goBeat_e, fX4_goBeat_e, ofI_m11, ofI_0, ofI_400, ofJ_1, ofI_m1, hp1, hp2, hp3]
    simp only [hR2, losX, noX]
    clear hR hR2
    have zz : nI 0 = 0 := rfl
    have zg : gbX 200 0 (thX σ 0) = thX σ 0 := rfl
    simp only [zz, zg]
    grind (splits := 40)
theorem rX6_lost : ∀ as σ, pX6_lost as σ → ∃ K as', as = .ref K :: as' ∧ xob WX K 6 := by
  rintro as σ ⟨g, rfl, hpre⟩
  exact ⟨_, _, rfl, by first | exact hpre | exact hpre.1 | exact obT hpre | exact obT hpre.1 | exact obS hpre | exact obS hpre.1 | exact obM | exact ob6 | exact ob2 | exact ob0⟩
def pX6_comes (as : List Value) (σ : xS) : Prop := ∃ (g : Int32) (x : Int32), as = [.ref 0, .int g, .int x] ∧ ((0 ≤ σ.1 100 2) ∧ (σ.1 100 2 ≤ 6) ∧ (σ.1 100 1 ≤ 8))
def fX6_comes (as : List Value) (σ : xS) : Option Value × xS := match as with
  | [.ref 0, .int g, .int x] => (some (.int (comX σ g x).1), (comX σ g x).2)
  | _ => (none, σ)
theorem pX6_comes_e {g : Int32} {x : Int32} {σ : xS} : pX6_comes [.ref 0, .int g, .int x] σ = ((0 ≤ σ.1 100 2) ∧ (σ.1 100 2 ≤ 6) ∧ (σ.1 100 1 ≤ 8)) := propext ⟨fun h => by obtain ⟨g, x, e, h⟩ := h; cases e; exact h, fun h => ⟨g, x, rfl, h⟩⟩
theorem fX6_comes_e {g : Int32} {x : Int32} {σ : xS} : fX6_comes [.ref 0, .int g, .int x] σ = (some (.int (comX σ g x).1), (comX σ g x).2) := rfl
def calX6_comes : List (Nat × xCall) := [(152, (false, 2, pX4_hasGait, fX4_hasGait)), (104, (false, 2, pX4_hasWalker, fX4_hasWalker)), (66, (false, 2, pX6_refuse, fX6_refuse)), (207, (false, 2, pX6_think, fX6_think)), (114, (false, 2, pX4_who, fX4_who)), (219, (false, 1, pX4_goBeat, fX4_goBeat))]
theorem c_X6_comes_152 : xlk calX6_comes 152 = some (false, 2, pX4_hasGait, fX4_hasGait) := rfl
theorem c_X6_comes_104 : xlk calX6_comes 104 = some (false, 2, pX4_hasWalker, fX4_hasWalker) := rfl
theorem c_X6_comes_66 : xlk calX6_comes 66 = some (false, 2, pX6_refuse, fX6_refuse) := rfl
theorem c_X6_comes_207 : xlk calX6_comes 207 = some (false, 2, pX6_think, fX6_think) := rfl
theorem c_X6_comes_114 : xlk calX6_comes 114 = some (false, 2, pX4_who, fX4_who) := rfl
theorem c_X6_comes_219 : xlk calX6_comes 219 = some (false, 1, pX4_goBeat, fX4_goBeat) := rfl
set_option maxHeartbeats 4000000 in
set_option maxRecDepth 100000 in
theorem mX6_comes : xMet WX yX6_comes cX6_comes 4 (some .int) 7 pX6_comes fX6_comes := by
  refine xMet_of (fld := xlk fldX6) (cal := xlk calX6_comes) (ks := xlk []) (gs := xlk []) (ro := fun _ => none) 0 (by decide) WX_nd rfl fldX6_ok xKs_nil xGs_nil (Or.inr rfl) (xcal_cons (xCk_V mX4_hasGait 4 (by decide) (by decide) (by decide) rfl (fun as σ h _ => rX4_hasGait as σ h) w_X6_152 ⟨by decide, by decide, by decide +kernel⟩) (xcal_cons (xCk_V mX4_hasWalker 4 (by decide) (by decide) (by decide) rfl (fun as σ h _ => rX4_hasWalker as σ h) w_X6_104 ⟨by decide, by decide, by decide +kernel⟩) (xcal_cons (xCk_V mX6_refuse 6 (by decide) (by decide) (by decide) rfl (fun as σ h _ => rX6_refuse as σ h) w_X6_66 ⟨by decide, by decide, by decide +kernel⟩) (xcal_cons (xCk_V mX6_think 6 (by decide) (by decide) (by decide) rfl (fun as σ h _ => rX6_think as σ h) w_X6_207 ⟨by decide, by decide, by decide +kernel⟩) (xcal_cons (xCk_V mX4_who 4 (by decide) (by decide) (by decide) rfl (fun as σ h _ => rX4_who as σ h) w_X6_114 ⟨by decide, by decide, by decide +kernel⟩) (xcal_cons (xCk_V mX4_goBeat 4 (by decide) (by decide) (by decide) rfl (fun as σ h _ => rX4_goBeat as σ h) w_X6_219 ⟨by decide, by decide, by decide +kernel⟩) xcal_nil)))))) ?_ ?_
  · rintro av σ ⟨g, x, rfl, hpre⟩
    exact Nat.le_of_ble_eq_true rfl
  rintro av σ ⟨g, x, rfl, ⟨hp1, hp2, hp3⟩⟩ Rt hR
  have hR2 : ∀ v' t', Rt (some (.int v')) t' = ((v', t') = comX σ g x) := fun v' t' => by
    rw [hR, fX6_comes_e]
    exact propext ⟨fun h => Prod.ext (by simpa using h.1) h.2, fun h => ⟨by rw [← h], by rw [← h]⟩⟩
  have z1 : ∀ b, (gbX 200 b (thX σ 0)).1 200 2 = σ.1 100 2 := fun b => by rw [gbX_B, thX_k]
  refine xto 37 (fun L st t => ((0 ≤ g ∧ g < σ.1 100 1) ∧ (0 ≤ x ∧ x < σ.1 100 2)) ∧ L = ([some (.ref 0), some (.int g), some (.int x), some (.int (nI 0))]) ∧ st = [] ∧ t = (gbX 200 0 (thX σ 0))) 50 ?_ ?_
  · rintro L st t ⟨hg, rfl, rfl, rfl⟩
    rw [comX, if_neg (fun q => by rcases q with q | q; exact q hg.1; exact q hg.2)] at hR2
    refine xfor 37 401 70 (fun i => [some (.ref 0), some (.int g), some (.int x), some (.int (nI i))]) (fun i => gbX 200 i (thX σ 0)) (fun i => ∀ j, j < i → cmP σ g x j = false) (fun i hi hH => ?_) 0 (Nat.zero_le _) (fun j hj => by omega)
    simp -implicitDefEqProofs only [xwp_2, xwp_0, xwp_1, xws_s, xdd_o, xld_0, xld_s, xs1_0, xs1_1, xs1_s, xs2_0, xs2_1, xs2_s, xlg_n, xlg_i, xlg_r, xlg_z, xlg_l, xf4_0, xf4_1, xf4_2, xf4_3, xgo_e, xcmp_eq, xcmp_ne, xcmp_lt, xcmp_ge, xcmp_gt, xcmp_le, xfg_0, xfg_1, xfg_2, xfg_3, xfg_4, xpop_0, xpop_s, xsw_n, xsw_c, xtb_n, xtb_c, xenp_n, xenp_i, xenp_r, xenp_z, xenp_l, xrep_0, xrep_s, Nat.reduceSub, true_and, and_true, cat_i, cat_r, Nat.reduceAdd, Nat.reduceLT, Nat.reduceLeDiff, Nat.reduceEqDiff, xnc, Int.reduceAdd, Int.reduceSub, Int.reduceNeg, Int.reduceLE, Int.reduceLT, Int.reduceToNat, ↓reduceIte, List.length_cons, List.length_nil, xlc0, xlc1, ite_10, i10, i01, i0_2, i0_3, i0_4, i0_6, i0_7, i0_8, i0_49, i0_10, or_true, true_or, or_false, false_or, not_false_eq_true, not_true_eq_false, xnt, xI_g, eq_self, xI_2, xJ_1, false_and, and_false, obT_t, obS_t, ob6_t, ob2_t, ob0_t, kT1_t, kT2_t, kT3_t, kT4_t, lT1, lT2, rT6, rT7, rT8, rT9, rT1i, rT2i, rS2, kSe_t, lSe, r0_0, r0_1, r0_2, r0_3, r0_4, r0_5, r0_6, r0_7, r0_8, r0_9, r1_i, r2_4, r2_5, r4_4, a1_t, a3_t, a5_t, a6_t, a7_t, a8_t, l1, l3, l5, l6, l7, l8, T1, T2, T3, T4, nI8, nI6, nI160, nI20, nI401, nI49, ob5_t, ob1_t, vp_tn, tn_def, lgc, dX6_comes_0, st_aload_n, dX6_comes_1, st_getfield, fl_X6_18, dX6_comes_4, st_iload_n, dX6_comes_5, st_invokevirtual, dX6_comes_8, st_ifCond, dX6_comes_11, dX6_comes_12, dX6_comes_15, dX6_comes_16, dX6_comes_19, dX6_comes_22, dX6_comes_23, st_bipush, dX6_comes_25, dX6_comes_28, st_ireturn, dX6_comes_29, dX6_comes_30, st_iconst, dX6_comes_31, dX6_comes_34, st_pop, dX6_comes_35, dX6_comes_36, st_istore_n, dX6_comes_37, dX6_comes_38, st_sipush, dX6_comes_41, st_if_icmp, dX6_comes_44, dX6_comes_45, fl_X6_22, dX6_comes_48, dX6_comes_49, dX6_comes_52, fl_X6_216, dX6_comes_55, dX6_comes_56, dX6_comes_59, dX6_comes_60, dX6_comes_61, dX6_comes_62, dX6_comes_65, dX6_comes_68, dX6_comes_69, st_iinc, dX6_comes_72, st_goto, dX6_comes_75, dX6_comes_76, c_X6_comes_152, pX4_hasGait_e, fX4_hasGait_e, Option.toList_some, Option.toList_none, List.cons_append, List.nil_append, c_X6_comes_104, pX4_hasWalker_e, fX4_hasWalker_e, c_X6_comes_66, pX6_refuse_e, fX6_refuse_e, c_X6_comes_207, pX6_think_e, fX6_think_e, c_X6_comes_114, pX4_who_e, fX4_who_e, c_X6_comes_219, pX4_goBeat_e, fX4_goBeat_e, ofI_m11, ofI_0, ofI_400, ofJ_1, ofI_m1, hp1, hp2, hp3, z1]
    have hc : (400 : Int32) < nI i ↔ 400 < i := nI_ltI (a := 400) (by omega) (by omega)
    have e1 : nI i + 1 = nI (i + 1) := nI_1 i
    have e7 : ∀ b, beatX 200 (gbX 200 b (thX σ 0)) = gbX 200 (b + 1) (thX σ 0) := fun b => rfl
    have e5 : cmP σ g x i = decide ((gbX 200 i (thX σ 0)).1 (whoK 200 x) 3 = g) := rfl
    skip
    have cont : cmP σ g x i = false → (∀ j, j < i + 1 → cmP σ g x j = false) := fun h2 => xall_s hH h2
    have fin : i = 401 → srX (cmP σ g x) (thX σ 0) = (-1, gbX 200 i (thX σ 0)) := fun h => by
      have e9 := xfs_no (P := cmP σ g x) (n := 401) (fun j hj => hH j (by omega))
      rw [srX, xfirst, e9]
      simp [h]
    have stop : i < 401 → cmP σ g x i = true → srX (cmP σ g x) (thX σ 0) = (nI i, gbX 200 i (thX σ 0)) := fun h1 h2 => by
      have e9 := xfs_at h1 h2 hH
      rw [srX, xfirst, e9]
      simp [h1]
    simp only [hc, e1, e7, hR2]
    clear hR hR2
    grind (splits := 40)
  · simp -implicitDefEqProofs only [xwp_2, xwp_0, xwp_1, xws_s, xdd_o, xld_0, xld_s, xs1_0, xs1_1, xs1_s, xs2_0, xs2_1, xs2_s, xlg_n, xlg_i, xlg_r, xlg_z, xlg_l, xf4_0, xf4_1, xf4_2, xf4_3, xgo_e, xcmp_eq, xcmp_ne, xcmp_lt, xcmp_ge, xcmp_gt, xcmp_le, xfg_0, xfg_1, xfg_2, xfg_3, xfg_4, xpop_0, xpop_s, xsw_n, xsw_c, xtb_n, xtb_c, xenp_n, xenp_i, xenp_r, xenp_z, xenp_l, xrep_0, xrep_s, Nat.reduceSub, true_and, and_true, cat_i, cat_r, Nat.reduceAdd, Nat.reduceLT, Nat.reduceLeDiff, Nat.reduceEqDiff, xnc, Int.reduceAdd, Int.reduceSub, Int.reduceNeg, Int.reduceLE, Int.reduceLT, Int.reduceToNat, ↓reduceIte, List.length_cons, List.length_nil, xlc0, xlc1, ite_10, i10, i01, i0_2, i0_3, i0_4, i0_6, i0_7, i0_8, i0_49, i0_10, or_true, true_or, or_false, false_or, not_false_eq_true, not_true_eq_false, xnt, xI_g, eq_self, xI_2, xJ_1, false_and, and_false, obT_t, obS_t, ob6_t, ob2_t, ob0_t, kT1_t, kT2_t, kT3_t, kT4_t, lT1, lT2, rT6, rT7, rT8, rT9, rT1i, rT2i, rS2, kSe_t, lSe, r0_0, r0_1, r0_2, r0_3, r0_4, r0_5, r0_6, r0_7, r0_8, r0_9, r1_i, r2_4, r2_5, r4_4, a1_t, a3_t, a5_t, a6_t, a7_t, a8_t, l1, l3, l5, l6, l7, l8, T1, T2, T3, T4, nI8, nI6, nI160, nI20, nI401, nI49, ob5_t, ob1_t, vp_tn, tn_def, lgc, dX6_comes_0, st_aload_n, dX6_comes_1, st_getfield, fl_X6_18, dX6_comes_4, st_iload_n, dX6_comes_5, st_invokevirtual, dX6_comes_8, st_ifCond, dX6_comes_11, dX6_comes_12, dX6_comes_15, dX6_comes_16, dX6_comes_19, dX6_comes_22, dX6_comes_23, st_bipush, dX6_comes_25, dX6_comes_28, st_ireturn, dX6_comes_29, dX6_comes_30, st_iconst, dX6_comes_31, dX6_comes_34, st_pop, dX6_comes_35, dX6_comes_36, st_istore_n, dX6_comes_37, dX6_comes_38, st_sipush, dX6_comes_41, st_if_icmp, dX6_comes_44, dX6_comes_45, fl_X6_22, dX6_comes_48, dX6_comes_49, dX6_comes_52, fl_X6_216, dX6_comes_55, dX6_comes_56, dX6_comes_59, dX6_comes_60, dX6_comes_61, dX6_comes_62, dX6_comes_65, dX6_comes_68, dX6_comes_69, st_iinc, dX6_comes_72, st_goto, dX6_comes_75, dX6_comes_76, c_X6_comes_152, pX4_hasGait_e, fX4_hasGait_e, Option.toList_some, Option.toList_none, List.cons_append, List.nil_append, c_X6_comes_104, pX4_hasWalker_e, fX4_hasWalker_e, c_X6_comes_66, pX6_refuse_e, fX6_refuse_e, c_X6_comes_207, pX6_think_e, fX6_think_e, c_X6_comes_114, pX4_who_e, fX4_who_e, c_X6_comes_219, pX4_goBeat_e, fX4_goBeat_e, ofI_m11, ofI_0, ofI_400, ofJ_1, ofI_m1, hp1, hp2, hp3]
    simp only [hR2, comX, noX]
    clear hR hR2
    have zz : nI 0 = 0 := rfl
    have zg : gbX 200 0 (thX σ 0) = thX σ 0 := rfl
    simp only [zz, zg]
    grind (splits := 40)
theorem rX6_comes : ∀ as σ, pX6_comes as σ → ∃ K as', as = .ref K :: as' ∧ xob WX K 6 := by
  rintro as σ ⟨g, x, rfl, hpre⟩
  exact ⟨_, _, rfl, by first | exact hpre | exact hpre.1 | exact obT hpre | exact obT hpre.1 | exact obS hpre | exact obS hpre.1 | exact obM | exact ob6 | exact ob2 | exact ob0⟩
def pX6_meet (as : List Value) (σ : xS) : Prop := ∃ (x : Int32) (y : Int32), as = [.ref 0, .int x, .int y] ∧ ((0 ≤ σ.1 100 2) ∧ (σ.1 100 2 ≤ 6) ∧ (σ.1 100 1 ≤ 8))
def fX6_meet (as : List Value) (σ : xS) : Option Value × xS := match as with
  | [.ref 0, .int x, .int y] => (some (.int (meeX σ x y).1), (meeX σ x y).2)
  | _ => (none, σ)
theorem pX6_meet_e {x : Int32} {y : Int32} {σ : xS} : pX6_meet [.ref 0, .int x, .int y] σ = ((0 ≤ σ.1 100 2) ∧ (σ.1 100 2 ≤ 6) ∧ (σ.1 100 1 ≤ 8)) := propext ⟨fun h => by obtain ⟨x, y, e, h⟩ := h; cases e; exact h, fun h => ⟨x, y, rfl, h⟩⟩
theorem fX6_meet_e {x : Int32} {y : Int32} {σ : xS} : fX6_meet [.ref 0, .int x, .int y] σ = (some (.int (meeX σ x y).1), (meeX σ x y).2) := rfl
def calX6_meet : List (Nat × xCall) := [(104, (false, 2, pX4_hasWalker, fX4_hasWalker)), (66, (false, 2, pX6_refuse, fX6_refuse)), (207, (false, 2, pX6_think, fX6_think)), (219, (false, 1, pX4_goBeat, fX4_goBeat)), (114, (false, 2, pX4_who, fX4_who))]
theorem c_X6_meet_104 : xlk calX6_meet 104 = some (false, 2, pX4_hasWalker, fX4_hasWalker) := rfl
theorem c_X6_meet_66 : xlk calX6_meet 66 = some (false, 2, pX6_refuse, fX6_refuse) := rfl
theorem c_X6_meet_207 : xlk calX6_meet 207 = some (false, 2, pX6_think, fX6_think) := rfl
theorem c_X6_meet_219 : xlk calX6_meet 219 = some (false, 1, pX4_goBeat, fX4_goBeat) := rfl
theorem c_X6_meet_114 : xlk calX6_meet 114 = some (false, 2, pX4_who, fX4_who) := rfl
set_option maxHeartbeats 4000000 in
set_option maxRecDepth 100000 in
theorem mX6_meet : xMet WX yX6_meet cX6_meet 4 (some .int) 7 pX6_meet fX6_meet := by
  refine xMet_of (fld := xlk fldX6) (cal := xlk calX6_meet) (ks := xlk []) (gs := xlk []) (ro := fun _ => none) 0 (by decide) WX_nd rfl fldX6_ok xKs_nil xGs_nil (Or.inr rfl) (xcal_cons (xCk_V mX4_hasWalker 4 (by decide) (by decide) (by decide) rfl (fun as σ h _ => rX4_hasWalker as σ h) w_X6_104 ⟨by decide, by decide, by decide +kernel⟩) (xcal_cons (xCk_V mX6_refuse 6 (by decide) (by decide) (by decide) rfl (fun as σ h _ => rX6_refuse as σ h) w_X6_66 ⟨by decide, by decide, by decide +kernel⟩) (xcal_cons (xCk_V mX6_think 6 (by decide) (by decide) (by decide) rfl (fun as σ h _ => rX6_think as σ h) w_X6_207 ⟨by decide, by decide, by decide +kernel⟩) (xcal_cons (xCk_V mX4_goBeat 4 (by decide) (by decide) (by decide) rfl (fun as σ h _ => rX4_goBeat as σ h) w_X6_219 ⟨by decide, by decide, by decide +kernel⟩) (xcal_cons (xCk_V mX4_who 4 (by decide) (by decide) (by decide) rfl (fun as σ h _ => rX4_who as σ h) w_X6_114 ⟨by decide, by decide, by decide +kernel⟩) xcal_nil))))) ?_ ?_
  · rintro av σ ⟨x, y, rfl, hpre⟩
    exact Nat.le_of_ble_eq_true rfl
  rintro av σ ⟨x, y, rfl, ⟨hp1, hp2, hp3⟩⟩ Rt hR
  have hR2 : ∀ v' t', Rt (some (.int v')) t' = ((v', t') = meeX σ x y) := fun v' t' => by
    rw [hR, fX6_meet_e]
    exact propext ⟨fun h => Prod.ext (by simpa using h.1) h.2, fun h => ⟨by rw [← h], by rw [← h]⟩⟩
  have z1 : ∀ b, (gbX 200 b (thX σ 0)).1 200 2 = σ.1 100 2 := fun b => by rw [gbX_B, thX_k]
  refine xto 49 (fun L st t => (((0 ≤ x ∧ x < σ.1 100 2) ∧ (0 ≤ y ∧ y < σ.1 100 2)) ∧ ¬ x = y) ∧ L = ([some (.ref 0), some (.int x), some (.int y), some (.int 1)]) ∧ st = [] ∧ t = (gbX 200 0 (thX σ 0))) 50 ?_ ?_
  · rintro L st t ⟨hg, rfl, rfl, rfl⟩
    rw [meeX, if_neg (fun q => by rcases q with q | q; exact q hg.1.1; exact q hg.1.2), if_neg hg.2] at hR2
    refine xfor 49 400 70 (fun i => [some (.ref 0), some (.int x), some (.int y), some (.int (nI (i + 1)))]) (fun i => gbX 200 i (thX σ 0)) (fun i => ∀ j, j < i → mtP σ x y j = false) (fun i hi hH => ?_) 0 (Nat.zero_le _) (fun j hj => by omega)
    simp -implicitDefEqProofs only [xwp_2, xwp_0, xwp_1, xws_s, xdd_o, xld_0, xld_s, xs1_0, xs1_1, xs1_s, xs2_0, xs2_1, xs2_s, xlg_n, xlg_i, xlg_r, xlg_z, xlg_l, xf4_0, xf4_1, xf4_2, xf4_3, xgo_e, xcmp_eq, xcmp_ne, xcmp_lt, xcmp_ge, xcmp_gt, xcmp_le, xfg_0, xfg_1, xfg_2, xfg_3, xfg_4, xpop_0, xpop_s, xsw_n, xsw_c, xtb_n, xtb_c, xenp_n, xenp_i, xenp_r, xenp_z, xenp_l, xrep_0, xrep_s, Nat.reduceSub, true_and, and_true, cat_i, cat_r, Nat.reduceAdd, Nat.reduceLT, Nat.reduceLeDiff, Nat.reduceEqDiff, xnc, Int.reduceAdd, Int.reduceSub, Int.reduceNeg, Int.reduceLE, Int.reduceLT, Int.reduceToNat, ↓reduceIte, List.length_cons, List.length_nil, xlc0, xlc1, ite_10, i10, i01, i0_2, i0_3, i0_4, i0_6, i0_7, i0_8, i0_49, i0_10, or_true, true_or, or_false, false_or, not_false_eq_true, not_true_eq_false, xnt, xI_g, eq_self, xI_2, xJ_1, false_and, and_false, obT_t, obS_t, ob6_t, ob2_t, ob0_t, kT1_t, kT2_t, kT3_t, kT4_t, lT1, lT2, rT6, rT7, rT8, rT9, rT1i, rT2i, rS2, kSe_t, lSe, r0_0, r0_1, r0_2, r0_3, r0_4, r0_5, r0_6, r0_7, r0_8, r0_9, r1_i, r2_4, r2_5, r4_4, a1_t, a3_t, a5_t, a6_t, a7_t, a8_t, l1, l3, l5, l6, l7, l8, T1, T2, T3, T4, nI8, nI6, nI160, nI20, nI401, nI49, ob5_t, ob1_t, vp_tn, tn_def, lgc, dX6_meet_0, st_aload_n, dX6_meet_1, st_getfield, fl_X6_18, dX6_meet_4, st_iload_n, dX6_meet_5, st_invokevirtual, dX6_meet_8, st_ifCond, dX6_meet_11, dX6_meet_12, dX6_meet_15, dX6_meet_16, dX6_meet_19, dX6_meet_22, dX6_meet_23, st_bipush, dX6_meet_25, dX6_meet_28, st_ireturn, dX6_meet_29, dX6_meet_30, dX6_meet_31, st_if_icmp, dX6_meet_34, dX6_meet_35, dX6_meet_37, dX6_meet_40, dX6_meet_41, dX6_meet_42, st_iconst, dX6_meet_43, dX6_meet_46, st_pop, dX6_meet_47, dX6_meet_48, st_istore_n, dX6_meet_49, dX6_meet_50, st_sipush, dX6_meet_53, dX6_meet_56, dX6_meet_57, fl_X6_22, dX6_meet_60, dX6_meet_63, dX6_meet_64, dX6_meet_65, dX6_meet_68, dX6_meet_69, dX6_meet_72, fl_X6_223, dX6_meet_75, dX6_meet_76, dX6_meet_79, dX6_meet_80, dX6_meet_83, dX6_meet_86, dX6_meet_89, dX6_meet_90, dX6_meet_91, st_iinc, dX6_meet_94, st_goto, dX6_meet_97, dX6_meet_98, c_X6_meet_104, pX4_hasWalker_e, fX4_hasWalker_e, Option.toList_some, Option.toList_none, List.cons_append, List.nil_append, c_X6_meet_66, pX6_refuse_e, fX6_refuse_e, c_X6_meet_207, pX6_think_e, fX6_think_e, c_X6_meet_219, pX4_goBeat_e, fX4_goBeat_e, c_X6_meet_114, pX4_who_e, fX4_who_e, ofI_m11, ofI_m16, ofI_0, ofJ_1, ofI_400, ofI_m1, hp1, hp2, hp3, z1]
    have hc : (400 : Int32) < nI (i + 1) ↔ 400 < i + 1 := nI_ltI (a := 400) (by omega) (by omega)
    have e1 : nI i + 1 = nI (i + 1) := nI_1 i
    have e7 : ∀ b, beatX 200 (gbX 200 b (thX σ 0)) = gbX 200 (b + 1) (thX σ 0) := fun b => rfl
    have e5 : mtP σ x y i = decide ((gbX 200 (i + 1) (thX σ 0)).1 (whoK 200 x) 1 = (gbX 200 (i + 1) (thX σ 0)).1 (whoK 200 y) 1) := rfl
    have e8 : nI (i + 1) + 1 = nI (i + 1 + 1) := nI_1 (i + 1)
    have cont : mtP σ x y i = false → (∀ j, j < i + 1 → mtP σ x y j = false) := fun h2 => xall_s hH h2
    have fin : i = 400 → mtX (mtP σ x y) (thX σ 0) = (-1, gbX 200 i (thX σ 0)) := fun h => by
      have e9 := xfs_no (P := mtP σ x y) (n := 400) (fun j hj => hH j (by omega))
      rw [mtX, e9]
      simp [h]
    have stop : i < 400 → mtP σ x y i = true → mtX (mtP σ x y) (thX σ 0) = (nI (i + 1), gbX 200 (i + 1) (thX σ 0)) := fun h1 h2 => by
      have e9 := xfs_at h1 h2 hH
      rw [mtX, e9]
      simp [h1]
    simp only [hc, e1, e7, hR2]
    clear hR hR2
    grind (splits := 40)
  · simp -implicitDefEqProofs only [xwp_2, xwp_0, xwp_1, xws_s, xdd_o, xld_0, xld_s, xs1_0, xs1_1, xs1_s, xs2_0, xs2_1, xs2_s, xlg_n, xlg_i, xlg_r, xlg_z, xlg_l, xf4_0, xf4_1, xf4_2, xf4_3, xgo_e, xcmp_eq, xcmp_ne, xcmp_lt, xcmp_ge, xcmp_gt, xcmp_le, xfg_0, xfg_1, xfg_2, xfg_3, xfg_4, xpop_0, xpop_s, xsw_n, xsw_c, xtb_n, xtb_c, xenp_n, xenp_i, xenp_r, xenp_z, xenp_l, xrep_0, xrep_s, Nat.reduceSub, true_and, and_true, cat_i, cat_r, Nat.reduceAdd, Nat.reduceLT, Nat.reduceLeDiff, Nat.reduceEqDiff, xnc, Int.reduceAdd, Int.reduceSub, Int.reduceNeg, Int.reduceLE, Int.reduceLT, Int.reduceToNat, ↓reduceIte, List.length_cons, List.length_nil, xlc0, xlc1, ite_10, i10, i01, i0_2, i0_3, i0_4, i0_6, i0_7, i0_8, i0_49, i0_10, or_true, true_or, or_false, false_or, not_false_eq_true, not_true_eq_false, xnt, xI_g, eq_self, xI_2, xJ_1, false_and, and_false, obT_t, obS_t, ob6_t, ob2_t, ob0_t, kT1_t, kT2_t, kT3_t, kT4_t, lT1, lT2, rT6, rT7, rT8, rT9, rT1i, rT2i, rS2, kSe_t, lSe, r0_0, r0_1, r0_2, r0_3, r0_4, r0_5, r0_6, r0_7, r0_8, r0_9, r1_i, r2_4, r2_5, r4_4, a1_t, a3_t, a5_t, a6_t, a7_t, a8_t, l1, l3, l5, l6, l7, l8, T1, T2, T3, T4, nI8, nI6, nI160, nI20, nI401, nI49, ob5_t, ob1_t, vp_tn, tn_def, lgc, dX6_meet_0, st_aload_n, dX6_meet_1, st_getfield, fl_X6_18, dX6_meet_4, st_iload_n, dX6_meet_5, st_invokevirtual, dX6_meet_8, st_ifCond, dX6_meet_11, dX6_meet_12, dX6_meet_15, dX6_meet_16, dX6_meet_19, dX6_meet_22, dX6_meet_23, st_bipush, dX6_meet_25, dX6_meet_28, st_ireturn, dX6_meet_29, dX6_meet_30, dX6_meet_31, st_if_icmp, dX6_meet_34, dX6_meet_35, dX6_meet_37, dX6_meet_40, dX6_meet_41, dX6_meet_42, st_iconst, dX6_meet_43, dX6_meet_46, st_pop, dX6_meet_47, dX6_meet_48, st_istore_n, dX6_meet_49, dX6_meet_50, st_sipush, dX6_meet_53, dX6_meet_56, dX6_meet_57, fl_X6_22, dX6_meet_60, dX6_meet_63, dX6_meet_64, dX6_meet_65, dX6_meet_68, dX6_meet_69, dX6_meet_72, fl_X6_223, dX6_meet_75, dX6_meet_76, dX6_meet_79, dX6_meet_80, dX6_meet_83, dX6_meet_86, dX6_meet_89, dX6_meet_90, dX6_meet_91, st_iinc, dX6_meet_94, st_goto, dX6_meet_97, dX6_meet_98, c_X6_meet_104, pX4_hasWalker_e, fX4_hasWalker_e, Option.toList_some, Option.toList_none, List.cons_append, List.nil_append, c_X6_meet_66, pX6_refuse_e, fX6_refuse_e, c_X6_meet_207, pX6_think_e, fX6_think_e, c_X6_meet_219, pX4_goBeat_e, fX4_goBeat_e, c_X6_meet_114, pX4_who_e, fX4_who_e, ofI_m11, ofI_m16, ofI_0, ofJ_1, ofI_400, ofI_m1, hp1, hp2, hp3]
    simp only [hR2, meeX, noX]
    clear hR hR2
    have zz : nI 0 = 0 := rfl
    have zg : gbX 200 0 (thX σ 0) = thX σ 0 := rfl
    simp only [zz, zg]
    grind (splits := 40)
theorem rX6_meet : ∀ as σ, pX6_meet as σ → ∃ K as', as = .ref K :: as' ∧ xob WX K 6 := by
  rintro as σ ⟨x, y, rfl, hpre⟩
  exact ⟨_, _, rfl, by first | exact hpre | exact hpre.1 | exact obT hpre | exact obT hpre.1 | exact obS hpre | exact obS hpre.1 | exact obM | exact ob6 | exact ob2 | exact ob0⟩
