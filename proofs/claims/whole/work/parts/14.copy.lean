theorem cpW_1 {σ : xS} {K J a b : Nat} : (cpW σ K J).1 a b = if a = K ∧ b < 7 then σ.1 J b else σ.1 a b := by
  simp only [cpW, xI_g]
  by_cases ha : a = K
  · by_cases hb : b < 7
    · have : b = 0 ∨ b = 1 ∨ b = 2 ∨ b = 3 ∨ b = 4 ∨ b = 5 ∨ b = 6 := by omega
      rcases this with rfl | rfl | rfl | rfl | rfl | rfl | rfl <;> simp [ha]
    · simp [ha, hb, show ¬ b = 0 by omega, show ¬ b = 1 by omega, show ¬ b = 2 by omega, show ¬ b = 3 by omega, show ¬ b = 4 by omega, show ¬ b = 5 by omega, show ¬ b = 6 by omega]
  · simp [ha]
theorem cpG_1 {σ : xS} {K J a b : Nat} : (cpG σ K J).1 a b = if a = K ∧ b < 3 then σ.1 J b else σ.1 a b := by
  simp only [cpG, xI_g]
  by_cases ha : a = K
  · by_cases hb : b < 3
    · have : b = 0 ∨ b = 1 ∨ b = 2 := by omega
      rcases this with rfl | rfl | rfl <;> simp [ha]
    · simp [ha, hb, show ¬ b = 0 by omega, show ¬ b = 1 by omega, show ¬ b = 2 by omega]
  · simp [ha]
/-- the first n walkers of B as those of O -/
def tkW (B O n : Nat) (σ : xS) : xS := (fun a b => if B + 20 ≤ a ∧ a < B + 20 + n ∧ b < 7 then σ.1 (O + 20 + (a - (B + 20))) b else σ.1 a b, σ.2)
def tkG (B O n : Nat) (σ : xS) : xS := (fun a b => if B + 10 ≤ a ∧ a < B + 10 + n ∧ b < 3 then σ.1 (O + 10 + (a - (B + 10))) b else σ.1 a b, σ.2)
theorem xTw_apart {B O : Nat} (hB : xTw B) (hO : xTw O) (h : B ≠ O) : B + 100 ≤ O ∨ O + 100 ≤ B := by
  rcases hB with rfl | rfl | rfl | rfl <;> rcases hO with rfl | rfl | rfl | rfl <;> omega
theorem tkW_s {B O i : Nat} {σ : xS} (h : B + 100 ≤ O ∨ O + 100 ≤ B) (hi : i < 6) : cpW (tkW B O i σ) (B + 20 + i) (O + 20 + i) = tkW B O (i + 1) σ := by
  refine xS_e (fun a b => ?_) (fun a b => rfl)
  rw [cpW_1]
  show (if a = B + 20 + i ∧ b < 7 then (if B + 20 ≤ O + 20 + i ∧ O + 20 + i < B + 20 + i ∧ b < 7 then _ else σ.1 (O + 20 + i) b) else (if B + 20 ≤ a ∧ a < B + 20 + i ∧ b < 7 then σ.1 (O + 20 + (a - (B + 20))) b else σ.1 a b)) = (if B + 20 ≤ a ∧ a < B + 20 + (i + 1) ∧ b < 7 then σ.1 (O + 20 + (a - (B + 20))) b else σ.1 a b)
  by_cases h1 : a = B + 20 + i ∧ b < 7
  · obtain ⟨rfl, hb⟩ := h1
    rw [if_pos ⟨rfl, hb⟩, if_neg (by omega), if_pos ⟨by omega, by omega, hb⟩, show B + 20 + i - (B + 20) = i by omega]
  · rw [if_neg h1]
    by_cases h2 : B + 20 ≤ a ∧ a < B + 20 + i ∧ b < 7
    · rw [if_pos h2, if_pos ⟨h2.1, by omega, h2.2.2⟩]
    · rw [if_neg h2, if_neg (by omega)]
theorem tkG_s {B O i : Nat} {σ : xS} (h : B + 100 ≤ O ∨ O + 100 ≤ B) (hi : i < 8) : cpG (tkG B O i σ) (B + 10 + i) (O + 10 + i) = tkG B O (i + 1) σ := by
  refine xS_e (fun a b => ?_) (fun a b => rfl)
  rw [cpG_1]
  show (if a = B + 10 + i ∧ b < 3 then (if B + 10 ≤ O + 10 + i ∧ O + 10 + i < B + 10 + i ∧ b < 3 then _ else σ.1 (O + 10 + i) b) else (if B + 10 ≤ a ∧ a < B + 10 + i ∧ b < 3 then σ.1 (O + 10 + (a - (B + 10))) b else σ.1 a b)) = (if B + 10 ≤ a ∧ a < B + 10 + (i + 1) ∧ b < 3 then σ.1 (O + 10 + (a - (B + 10))) b else σ.1 a b)
  by_cases h1 : a = B + 10 + i ∧ b < 3
  · obtain ⟨rfl, hb⟩ := h1
    rw [if_pos ⟨rfl, hb⟩, if_neg (by omega), if_pos ⟨by omega, by omega, hb⟩, show B + 10 + i - (B + 10) = i by omega]
  · rw [if_neg h1]
    by_cases h2 : B + 10 ≤ a ∧ a < B + 10 + i ∧ b < 3
    · rw [if_pos h2, if_pos ⟨h2.1, by omega, h2.2.2⟩]
    · rw [if_neg h2, if_neg (by omega)]
theorem tkW_0 {B O : Nat} {σ : xS} : tkW B O 0 σ = σ := by
  refine xS_e (fun a b => ?_) (fun a b => rfl)
  show (if B + 20 ≤ a ∧ a < B + 20 + 0 ∧ b < 7 then _ else σ.1 a b) = _
  rw [if_neg (by omega)]
theorem tkG_0 {B O : Nat} {σ : xS} : tkG B O 0 σ = σ := by
  refine xS_e (fun a b => ?_) (fun a b => rfl)
  show (if B + 10 ≤ a ∧ a < B + 10 + 0 ∧ b < 3 then _ else σ.1 a b) = _
  rw [if_neg (by omega)]
theorem tkW_o {B O n a b : Nat} {σ : xS} (h : a < B + 20 ∨ B + 20 + n ≤ a) : (tkW B O n σ).1 a b = σ.1 a b := by
  show (if B + 20 ≤ a ∧ a < B + 20 + n ∧ b < 7 then _ else σ.1 a b) = _
  rw [if_neg (by omega)]
theorem tkG_o {B O n a b : Nat} {σ : xS} (h : a < B + 10 ∨ B + 10 + n ≤ a) : (tkG B O n σ).1 a b = σ.1 a b := by
  show (if B + 10 ≤ a ∧ a < B + 10 + n ∧ b < 3 then _ else σ.1 a b) = _
  rw [if_neg (by omega)]
theorem tkW_2 {B O n : Nat} {σ : xS} : (tkW B O n σ).2 = σ.2 := rfl
theorem tkG_2 {B O n : Nat} {σ : xS} : (tkG B O n σ).2 = σ.2 := rfl
def pX4_takeWalkersOf (as : List Value) (σ : xS) : Prop := ∃ (B : Nat) (O : Nat), as = [.ref B, .ref O] ∧ ((xTw B) ∧ (xTw O) ∧ (B ≠ O) ∧ (σ.1 O 2 ≤ 6))
def fX4_takeWalkersOf (as : List Value) (σ : xS) : Option Value × xS := match as with
  | [.ref B, .ref O] => (none, tkW B O (tn (σ.1 O 2)) (xI σ B 2 (σ.1 O 2)))
  | _ => (none, σ)
theorem pX4_takeWalkersOf_e {B : Nat} {O : Nat} {σ : xS} : pX4_takeWalkersOf [.ref B, .ref O] σ = ((xTw B) ∧ (xTw O) ∧ (B ≠ O) ∧ (σ.1 O 2 ≤ 6)) := propext ⟨fun h => by obtain ⟨B, O, e, h⟩ := h; cases e; exact h, fun h => ⟨B, O, rfl, h⟩⟩
theorem fX4_takeWalkersOf_e {B : Nat} {O : Nat} {σ : xS} : fX4_takeWalkersOf [.ref B, .ref O] σ = (none, tkW B O (tn (σ.1 O 2)) (xI σ B 2 (σ.1 O 2))) := rfl
def calX4_takeWalkersOf : List (Nat × xCall) := [(65, (false, 2, pX4_who, fX4_who)), (69, (false, 2, pX5_becomeAs, fX5_becomeAs))]
theorem c_X4_takeWalkersOf_65 : xlk calX4_takeWalkersOf 65 = some (false, 2, pX4_who, fX4_who) := rfl
theorem c_X4_takeWalkersOf_69 : xlk calX4_takeWalkersOf 69 = some (false, 2, pX5_becomeAs, fX5_becomeAs) := rfl
set_option maxHeartbeats 4000000 in
set_option maxRecDepth 100000 in
theorem mX4_takeWalkersOf : xMet WX yX4_takeWalkersOf cX4_takeWalkersOf 3 none 2 pX4_takeWalkersOf fX4_takeWalkersOf := by
  refine xMet_of (fld := xlk fldX4) (cal := xlk calX4_takeWalkersOf) (ks := xlk []) (gs := xlk []) (ro := fun _ => none) 4 (by decide) WX_nd rfl fldX4_ok xKs_nil xGs_nil (Or.inr rfl) (xcal_cons (xCk_V mX4_who 4 (by decide) (by decide) (by decide) rfl (fun as σ h _ => rX4_who as σ h) w_X4_65 ⟨by decide, by decide, by decide +kernel⟩) (xcal_cons (xCk_V mX5_becomeAs 5 (by decide) (by decide) (by decide) rfl (fun as σ h _ => rX5_becomeAs as σ h) w_X4_69 ⟨by decide, by decide, by decide +kernel⟩) xcal_nil)) ?_ ?_
  · rintro av σ ⟨B, O, rfl, hpre⟩
    exact Nat.le_of_ble_eq_true rfl
  rintro av σ ⟨B, O, rfl, ⟨hp1, hp2, hp3, hp4⟩⟩ Rt hR
  have hwk := xwk6 hp4
  have hap := xTw_apart hp1 hp2 hp3
  refine xfor0 10 (tn (σ.1 O 2)) 60 20 (fun i => [some (.ref B), some (.ref O), some (.int (nI i))]) (fun i => tkW B O i (xI σ B 2 (σ.1 O 2))) (fun i => True) (trivial) (fun i hi hH => ?_) ?_
  · simp only [xwp_2, xwp_0, xwp_1, xws_s, xdd_o, xld_0, xld_s, xs1_0, xs1_1, xs1_s, xs2_0, xs2_1, xs2_s, xlg_n, xlg_i, xlg_r, xlg_z, xlg_l, xf4_0, xf4_1, xf4_2, xf4_3, xgo_e, xcmp_eq, xcmp_ne, xcmp_lt, xcmp_ge, xcmp_gt, xcmp_le, xfg_0, xfg_1, xfg_2, xfg_3, xfg_4, xpop_0, xpop_s, xsw_n, xsw_c, xtb_n, xtb_c, xenp_n, xenp_i, xenp_r, xenp_z, xenp_l, xrep_0, xrep_s, Nat.reduceSub, true_and, and_true, cat_i, cat_r, Nat.reduceAdd, Nat.reduceLT, Nat.reduceLeDiff, Nat.reduceEqDiff, xnc, Int.reduceAdd, Int.reduceSub, Int.reduceNeg, Int.reduceLE, Int.reduceLT, Int.reduceToNat, ↓reduceIte, List.length_cons, List.length_nil, xlc0, xlc1, ite_10, i10, i01, i0_2, i0_3, i0_4, i0_6, i0_7, i0_8, i0_49, i0_10, or_true, true_or, or_false, false_or, not_false_eq_true, not_true_eq_false, xnt, xI_g, eq_self, xI_2, xJ_1, false_and, and_false, obT_t, obS_t, ob6_t, ob2_t, ob0_t, kT1_t, kT2_t, kT3_t, kT4_t, lT1, lT2, rT6, rT7, rT8, rT9, rT1i, rT2i, rS2, kSe_t, lSe, r0_0, r0_1, r0_2, r0_3, r0_4, r0_5, r0_6, r0_7, r0_8, r0_9, r1_i, r2_4, r2_5, r4_4, a1_t, a3_t, a5_t, a6_t, a7_t, a8_t, l1, l3, l5, l6, l7, l8, T1, T2, T3, T4, nI8, nI6, nI160, nI20, nI401, nI49, ob5_t, ob1_t, vp_tn, tn_def, lgc, dX4_takeWalkersOf_0, st_aload_n, dX4_takeWalkersOf_1, dX4_takeWalkersOf_2, st_getfield, fl_X4_19, dX4_takeWalkersOf_5, st_putfield, dX4_takeWalkersOf_8, st_iconst, dX4_takeWalkersOf_9, st_istore_n, dX4_takeWalkersOf_10, st_iload_n, dX4_takeWalkersOf_11, dX4_takeWalkersOf_12, dX4_takeWalkersOf_15, st_if_icmp, dX4_takeWalkersOf_18, dX4_takeWalkersOf_19, dX4_takeWalkersOf_20, st_invokevirtual, dX4_takeWalkersOf_23, dX4_takeWalkersOf_24, dX4_takeWalkersOf_25, dX4_takeWalkersOf_28, dX4_takeWalkersOf_31, st_iinc, dX4_takeWalkersOf_34, st_goto, dX4_takeWalkersOf_37, st_return_, c_X4_takeWalkersOf_65, pX4_who_e, fX4_who_e, Option.toList_some, Option.toList_none, List.cons_append, List.nil_append, c_X4_takeWalkersOf_69, pX5_becomeAs_e, fX5_becomeAs_e, ofI_0, ofI_1, hp1, hp2, hp3, hp4]
    have e1 : (tkW B O i (xI σ B 2 (σ.1 O 2))).1 B 2 = σ.1 O 2 := by
      rw [tkW_o (by omega)]
      simp [xI]
    simp only [e1]
    have hc := le_nI_tn (i := i) (x := σ.1 O 2) hi
    refine ⟨fun h => ?_, fun h => ?_⟩
    · have hn : i = tn (σ.1 O 2) := by rw [hc] at h; omega
      rw [hR, fX4_takeWalkersOf_e, ← hn]
      exact ⟨rfl, rfl⟩
    · have hn : i < tn (σ.1 O 2) := by rw [hc] at h; omega
      have h6 : i < 6 := by omega
      simp only [whoK_n h6]
      have e2 := tkW_s (B := B) (O := O) (i := i) (σ := xI σ B 2 (σ.1 O 2)) hap h6
      rw [nI_1]
      exact ⟨hn, rfl, by rw [← e2]; rfl⟩
  · simp only [xwp_2, xwp_0, xwp_1, xws_s, xdd_o, xld_0, xld_s, xs1_0, xs1_1, xs1_s, xs2_0, xs2_1, xs2_s, xlg_n, xlg_i, xlg_r, xlg_z, xlg_l, xf4_0, xf4_1, xf4_2, xf4_3, xgo_e, xcmp_eq, xcmp_ne, xcmp_lt, xcmp_ge, xcmp_gt, xcmp_le, xfg_0, xfg_1, xfg_2, xfg_3, xfg_4, xpop_0, xpop_s, xsw_n, xsw_c, xtb_n, xtb_c, xenp_n, xenp_i, xenp_r, xenp_z, xenp_l, xrep_0, xrep_s, Nat.reduceSub, true_and, and_true, cat_i, cat_r, Nat.reduceAdd, Nat.reduceLT, Nat.reduceLeDiff, Nat.reduceEqDiff, xnc, Int.reduceAdd, Int.reduceSub, Int.reduceNeg, Int.reduceLE, Int.reduceLT, Int.reduceToNat, ↓reduceIte, List.length_cons, List.length_nil, xlc0, xlc1, ite_10, i10, i01, i0_2, i0_3, i0_4, i0_6, i0_7, i0_8, i0_49, i0_10, or_true, true_or, or_false, false_or, not_false_eq_true, not_true_eq_false, xnt, xI_g, eq_self, xI_2, xJ_1, false_and, and_false, obT_t, obS_t, ob6_t, ob2_t, ob0_t, kT1_t, kT2_t, kT3_t, kT4_t, lT1, lT2, rT6, rT7, rT8, rT9, rT1i, rT2i, rS2, kSe_t, lSe, r0_0, r0_1, r0_2, r0_3, r0_4, r0_5, r0_6, r0_7, r0_8, r0_9, r1_i, r2_4, r2_5, r4_4, a1_t, a3_t, a5_t, a6_t, a7_t, a8_t, l1, l3, l5, l6, l7, l8, T1, T2, T3, T4, nI8, nI6, nI160, nI20, nI401, nI49, ob5_t, ob1_t, vp_tn, tn_def, lgc, dX4_takeWalkersOf_0, st_aload_n, dX4_takeWalkersOf_1, dX4_takeWalkersOf_2, st_getfield, fl_X4_19, dX4_takeWalkersOf_5, st_putfield, dX4_takeWalkersOf_8, st_iconst, dX4_takeWalkersOf_9, st_istore_n, dX4_takeWalkersOf_10, st_iload_n, dX4_takeWalkersOf_11, dX4_takeWalkersOf_12, dX4_takeWalkersOf_15, st_if_icmp, dX4_takeWalkersOf_18, dX4_takeWalkersOf_19, dX4_takeWalkersOf_20, st_invokevirtual, dX4_takeWalkersOf_23, dX4_takeWalkersOf_24, dX4_takeWalkersOf_25, dX4_takeWalkersOf_28, dX4_takeWalkersOf_31, st_iinc, dX4_takeWalkersOf_34, st_goto, dX4_takeWalkersOf_37, st_return_, c_X4_takeWalkersOf_65, pX4_who_e, fX4_who_e, Option.toList_some, Option.toList_none, List.cons_append, List.nil_append, c_X4_takeWalkersOf_69, pX5_becomeAs_e, fX5_becomeAs_e, ofI_0, ofI_1, hp1, hp2, hp3, hp4]
    first | exact tkW_0.symm | exact ⟨rfl, tkW_0.symm⟩
theorem rX4_takeWalkersOf : ∀ as σ, pX4_takeWalkersOf as σ → ∃ K as', as = .ref K :: as' ∧ xob WX K 4 := by
  rintro as σ ⟨B, O, rfl, hpre⟩
  exact ⟨_, _, rfl, by first | exact hpre | exact hpre.1 | exact obT hpre | exact obT hpre.1 | exact obS hpre | exact obS hpre.1 | exact obM | exact ob6 | exact ob2 | exact ob0⟩
/-- a town becomes as another -/
def cpT (B O : Nat) (σ : xS) : xS := xI (xI (xI (tkW B O (tn (σ.1 O 2)) (xI (tkG B O (tn (σ.1 O 1)) (xI (xJ σ B 0 (σ.2 O 0)) B 1 (σ.1 O 1))) B 2 (σ.1 O 2))) B 3 (σ.1 O 3)) B 4 (σ.1 O 4)) B 5 (σ.1 O 5)
def pX4_becomeAs (as : List Value) (σ : xS) : Prop := ∃ (B : Nat) (O : Nat), as = [.ref B, .ref O] ∧ ((xTw B) ∧ (xTw O) ∧ (B ≠ O) ∧ (σ.1 O 2 ≤ 6) ∧ (σ.1 O 1 ≤ 8))
def fX4_becomeAs (as : List Value) (σ : xS) : Option Value × xS := match as with
  | [.ref B, .ref O] => (none, cpT B O σ)
  | _ => (none, σ)
theorem pX4_becomeAs_e {B : Nat} {O : Nat} {σ : xS} : pX4_becomeAs [.ref B, .ref O] σ = ((xTw B) ∧ (xTw O) ∧ (B ≠ O) ∧ (σ.1 O 2 ≤ 6) ∧ (σ.1 O 1 ≤ 8)) := propext ⟨fun h => by obtain ⟨B, O, e, h⟩ := h; cases e; exact h, fun h => ⟨B, O, rfl, h⟩⟩
theorem fX4_becomeAs_e {B : Nat} {O : Nat} {σ : xS} : fX4_becomeAs [.ref B, .ref O] σ = (none, cpT B O σ) := rfl
def calX4_becomeAs : List (Nat × xCall) := [(53, (false, 2, pX4_gaitBy, fX4_gaitBy)), (57, (false, 2, pX1_becomeAs, fX1_becomeAs)), (61, (false, 2, pX4_takeWalkersOf, fX4_takeWalkersOf))]
theorem c_X4_becomeAs_53 : xlk calX4_becomeAs 53 = some (false, 2, pX4_gaitBy, fX4_gaitBy) := rfl
theorem c_X4_becomeAs_57 : xlk calX4_becomeAs 57 = some (false, 2, pX1_becomeAs, fX1_becomeAs) := rfl
theorem c_X4_becomeAs_61 : xlk calX4_becomeAs 61 = some (false, 2, pX4_takeWalkersOf, fX4_takeWalkersOf) := rfl
set_option maxHeartbeats 4000000 in
set_option maxRecDepth 100000 in
theorem mX4_becomeAs : xMet WX yX4_becomeAs cX4_becomeAs 3 none 3 pX4_becomeAs fX4_becomeAs := by
  refine xMet_of (fld := xlk fldX4) (cal := xlk calX4_becomeAs) (ks := xlk []) (gs := xlk []) (ro := fun _ => none) 4 (by decide) WX_nd rfl fldX4_ok xKs_nil xGs_nil (Or.inr rfl) (xcal_cons (xCk_V mX4_gaitBy 4 (by decide) (by decide) (by decide) rfl (fun as σ h _ => rX4_gaitBy as σ h) w_X4_53 ⟨by decide, by decide, by decide +kernel⟩) (xcal_cons (xCk_V mX1_becomeAs 1 (by decide) (by decide) (by decide) rfl (fun as σ h _ => rX1_becomeAs as σ h) w_X4_57 ⟨by decide, by decide, by decide +kernel⟩) (xcal_cons (xCk_V mX4_takeWalkersOf 4 (by decide) (by decide) (by decide) rfl (fun as σ h _ => rX4_takeWalkersOf as σ h) w_X4_61 ⟨by decide, by decide, by decide +kernel⟩) xcal_nil))) ?_ ?_
  · rintro av σ ⟨B, O, rfl, hpre⟩
    exact Nat.le_of_ble_eq_true rfl
  rintro av σ ⟨B, O, rfl, ⟨hp1, hp2, hp3, hp4, hp5⟩⟩ Rt hR
  have hwk := xwk6 hp4
  have hwg := xwk8 hp5
  have hap := xTw_apart hp1 hp2 hp3
  refine xfor0 18 (tn (σ.1 O 1)) 60 20 (fun i => [some (.ref B), some (.ref O), some (.int (nI i))]) (fun i => tkG B O i (xI (xJ σ B 0 (σ.2 O 0)) B 1 (σ.1 O 1))) (fun i => True) (trivial) (fun i hi hH => ?_) ?_
  · simp only [xwp_2, xwp_0, xwp_1, xws_s, xdd_o, xld_0, xld_s, xs1_0, xs1_1, xs1_s, xs2_0, xs2_1, xs2_s, xlg_n, xlg_i, xlg_r, xlg_z, xlg_l, xf4_0, xf4_1, xf4_2, xf4_3, xgo_e, xcmp_eq, xcmp_ne, xcmp_lt, xcmp_ge, xcmp_gt, xcmp_le, xfg_0, xfg_1, xfg_2, xfg_3, xfg_4, xpop_0, xpop_s, xsw_n, xsw_c, xtb_n, xtb_c, xenp_n, xenp_i, xenp_r, xenp_z, xenp_l, xrep_0, xrep_s, Nat.reduceSub, true_and, and_true, cat_i, cat_r, Nat.reduceAdd, Nat.reduceLT, Nat.reduceLeDiff, Nat.reduceEqDiff, xnc, Int.reduceAdd, Int.reduceSub, Int.reduceNeg, Int.reduceLE, Int.reduceLT, Int.reduceToNat, ↓reduceIte, List.length_cons, List.length_nil, xlc0, xlc1, ite_10, i10, i01, i0_2, i0_3, i0_4, i0_6, i0_7, i0_8, i0_49, i0_10, or_true, true_or, or_false, false_or, not_false_eq_true, not_true_eq_false, xnt, xI_g, eq_self, xI_2, xJ_1, false_and, and_false, obT_t, obS_t, ob6_t, ob2_t, ob0_t, kT1_t, kT2_t, kT3_t, kT4_t, lT1, lT2, rT6, rT7, rT8, rT9, rT1i, rT2i, rS2, kSe_t, lSe, r0_0, r0_1, r0_2, r0_3, r0_4, r0_5, r0_6, r0_7, r0_8, r0_9, r1_i, r2_4, r2_5, r4_4, a1_t, a3_t, a5_t, a6_t, a7_t, a8_t, l1, l3, l5, l6, l7, l8, T1, T2, T3, T4, nI8, nI6, nI160, nI20, nI401, nI49, ob5_t, ob1_t, vp_tn, tn_def, lgc, dX4_becomeAs_0, st_aload_n, dX4_becomeAs_1, dX4_becomeAs_2, st_getfield, fl_X4_9, dX4_becomeAs_5, st_putfield, dX4_becomeAs_8, dX4_becomeAs_9, dX4_becomeAs_10, fl_X4_15, dX4_becomeAs_13, dX4_becomeAs_16, st_iconst, dX4_becomeAs_17, st_istore_n, dX4_becomeAs_18, st_iload_n, dX4_becomeAs_19, dX4_becomeAs_20, dX4_becomeAs_23, st_if_icmp, dX4_becomeAs_26, dX4_becomeAs_27, dX4_becomeAs_28, st_invokevirtual, dX4_becomeAs_31, dX4_becomeAs_32, dX4_becomeAs_33, dX4_becomeAs_36, dX4_becomeAs_39, st_iinc, dX4_becomeAs_42, st_goto, dX4_becomeAs_45, dX4_becomeAs_46, dX4_becomeAs_47, dX4_becomeAs_50, dX4_becomeAs_51, dX4_becomeAs_52, fl_X4_22, dX4_becomeAs_55, dX4_becomeAs_58, dX4_becomeAs_59, dX4_becomeAs_60, fl_X4_25, dX4_becomeAs_63, dX4_becomeAs_66, dX4_becomeAs_67, dX4_becomeAs_68, fl_X4_28, dX4_becomeAs_71, dX4_becomeAs_74, st_return_, c_X4_becomeAs_53, pX4_gaitBy_e, fX4_gaitBy_e, Option.toList_some, Option.toList_none, List.cons_append, List.nil_append, c_X4_becomeAs_57, pX1_becomeAs_e, fX1_becomeAs_e, c_X4_becomeAs_61, pX4_takeWalkersOf_e, fX4_takeWalkersOf_e, ofI_0, ofI_1, hp1, hp2, hp3, hp4, hp5]
    have e1 : ∀ b, (tkG B O i (xI (xJ σ B 0 (σ.2 O 0)) B 1 (σ.1 O 1))).1 B b = if b = 1 then σ.1 O 1 else σ.1 B b := by
      intro b
      rw [tkG_o (by omega)]
      simp [xI, xJ]
    have e3 : ∀ b, (tkG B O i (xI (xJ σ B 0 (σ.2 O 0)) B 1 (σ.1 O 1))).1 O b = σ.1 O b := by
      intro b
      rw [tkG_o (by omega)]
      simp [xI, xJ, show ¬ O = B from fun q => hp3 q.symm]
    have e4 : ∀ (k : Nat) (τ : xS) b, (tkW B O (tn (σ.1 O 2)) τ).1 O b = τ.1 O b := by
      intro k τ b
      rw [tkW_o (by omega)]
    have e5 : (O = B) = False := eq_false (fun q => hp3 q.symm)
    simp only [e1, e3, e4 0, e5, false_and, if_false, if_true]
    have hc := le_nI_tn (i := i) (x := σ.1 O 1) hi
    refine ⟨fun h => ?_, fun h => ?_⟩
    · have hn : i = tn (σ.1 O 1) := by rw [hc] at h; omega
      rw [hR, fX4_becomeAs_e, cpT, ← hn]
      refine ⟨⟨hp3, hp4⟩, rfl, ?_⟩
      simp only [xI_g, e5, false_and, if_false, e3]
    · have hn : i < tn (σ.1 O 1) := by rw [hc] at h; omega
      have h8 : i < 8 := by omega
      simp only [gaiK_n h8]
      have e2 := tkG_s (B := B) (O := O) (i := i) (σ := xI (xJ σ B 0 (σ.2 O 0)) B 1 (σ.1 O 1)) hap h8
      rw [nI_1]
      exact ⟨hn, rfl, by rw [← e2]; rfl⟩
  · simp only [xwp_2, xwp_0, xwp_1, xws_s, xdd_o, xld_0, xld_s, xs1_0, xs1_1, xs1_s, xs2_0, xs2_1, xs2_s, xlg_n, xlg_i, xlg_r, xlg_z, xlg_l, xf4_0, xf4_1, xf4_2, xf4_3, xgo_e, xcmp_eq, xcmp_ne, xcmp_lt, xcmp_ge, xcmp_gt, xcmp_le, xfg_0, xfg_1, xfg_2, xfg_3, xfg_4, xpop_0, xpop_s, xsw_n, xsw_c, xtb_n, xtb_c, xenp_n, xenp_i, xenp_r, xenp_z, xenp_l, xrep_0, xrep_s, Nat.reduceSub, true_and, and_true, cat_i, cat_r, Nat.reduceAdd, Nat.reduceLT, Nat.reduceLeDiff, Nat.reduceEqDiff, xnc, Int.reduceAdd, Int.reduceSub, Int.reduceNeg, Int.reduceLE, Int.reduceLT, Int.reduceToNat, ↓reduceIte, List.length_cons, List.length_nil, xlc0, xlc1, ite_10, i10, i01, i0_2, i0_3, i0_4, i0_6, i0_7, i0_8, i0_49, i0_10, or_true, true_or, or_false, false_or, not_false_eq_true, not_true_eq_false, xnt, xI_g, eq_self, xI_2, xJ_1, false_and, and_false, obT_t, obS_t, ob6_t, ob2_t, ob0_t, kT1_t, kT2_t, kT3_t, kT4_t, lT1, lT2, rT6, rT7, rT8, rT9, rT1i, rT2i, rS2, kSe_t, lSe, r0_0, r0_1, r0_2, r0_3, r0_4, r0_5, r0_6, r0_7, r0_8, r0_9, r1_i, r2_4, r2_5, r4_4, a1_t, a3_t, a5_t, a6_t, a7_t, a8_t, l1, l3, l5, l6, l7, l8, T1, T2, T3, T4, nI8, nI6, nI160, nI20, nI401, nI49, ob5_t, ob1_t, vp_tn, tn_def, lgc, dX4_becomeAs_0, st_aload_n, dX4_becomeAs_1, dX4_becomeAs_2, st_getfield, fl_X4_9, dX4_becomeAs_5, st_putfield, dX4_becomeAs_8, dX4_becomeAs_9, dX4_becomeAs_10, fl_X4_15, dX4_becomeAs_13, dX4_becomeAs_16, st_iconst, dX4_becomeAs_17, st_istore_n, dX4_becomeAs_18, st_iload_n, dX4_becomeAs_19, dX4_becomeAs_20, dX4_becomeAs_23, st_if_icmp, dX4_becomeAs_26, dX4_becomeAs_27, dX4_becomeAs_28, st_invokevirtual, dX4_becomeAs_31, dX4_becomeAs_32, dX4_becomeAs_33, dX4_becomeAs_36, dX4_becomeAs_39, st_iinc, dX4_becomeAs_42, st_goto, dX4_becomeAs_45, dX4_becomeAs_46, dX4_becomeAs_47, dX4_becomeAs_50, dX4_becomeAs_51, dX4_becomeAs_52, fl_X4_22, dX4_becomeAs_55, dX4_becomeAs_58, dX4_becomeAs_59, dX4_becomeAs_60, fl_X4_25, dX4_becomeAs_63, dX4_becomeAs_66, dX4_becomeAs_67, dX4_becomeAs_68, fl_X4_28, dX4_becomeAs_71, dX4_becomeAs_74, st_return_, c_X4_becomeAs_53, pX4_gaitBy_e, fX4_gaitBy_e, Option.toList_some, Option.toList_none, List.cons_append, List.nil_append, c_X4_becomeAs_57, pX1_becomeAs_e, fX1_becomeAs_e, c_X4_becomeAs_61, pX4_takeWalkersOf_e, fX4_takeWalkersOf_e, ofI_0, ofI_1, hp1, hp2, hp3, hp4, hp5]
    first | exact tkG_0.symm | exact ⟨rfl, tkG_0.symm⟩
theorem rX4_becomeAs : ∀ as σ, pX4_becomeAs as σ → ∃ K as', as = .ref K :: as' ∧ xob WX K 4 := by
  rintro as σ ⟨B, O, rfl, hpre⟩
  exact ⟨_, _, rfl, by first | exact hpre | exact hpre.1 | exact obT hpre | exact obT hpre.1 | exact obS hpre | exact obS hpre.1 | exact obM | exact ob6 | exact ob2 | exact ob0⟩
