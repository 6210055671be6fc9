/-- only the reader's own numbers are touched -/
def kp2 (σ σ' : xS) : Prop := (∀ a b, a ≠ 2 → σ'.1 a b = σ.1 a b) ∧ (σ'.1 2 2 = σ.1 2 2) ∧ σ'.2 = σ.2
theorem kp2_r {σ : xS} : kp2 σ σ := ⟨fun _ _ _ => rfl, rfl, rfl⟩
theorem kp2_t {σ σ' σ'' : xS} (h : kp2 σ σ') (h' : kp2 σ' σ'') : kp2 σ σ'' := ⟨fun a b q => (h'.1 a b q).trans (h.1 a b q), h'.2.1.trans h.2.1, h'.2.2.trans h.2.2⟩
theorem kp2_i {σ : xS} {f : Nat} {v : Int32} (hf : f ≠ 2) : kp2 σ (xI σ 2 f v) := ⟨fun a b q => xI_n (fun e => q e.1), xI_n (fun e => hf e.2.symm), rfl⟩
theorem rsS_k {σ : xS} {c : Int32} : kp2 σ (rsS σ c) := by
  unfold rsS
  split
  · exact kp2_i (by decide)
  · exact kp2_r
theorem rn1_k {σ : xS} : kp2 σ (rn1 σ) := kp2_t rsS_k (kp2_i (by decide))
theorem rn2_k {σ : xS} : kp2 σ (rn2 σ) := kp2_t rn1_k (kp2_i (by decide))
theorem rn3_k {σ : xS} : kp2 σ (rn3 σ) := by
  unfold rn3
  split
  · exact rn2_k
  · exact kp2_t rn2_k (kp2_i (by decide))
theorem rnS_k {σ : xS} {a b : Int32} : kp2 σ (rnS σ a b) := by
  unfold rnS
  split
  · exact rsS_k
  · split
    · exact rn1_k
    · split
      · exact rn3_k
      · exact kp2_t rn3_k (kp2_i (by decide))
theorem rnS_o {σ : xS} {c d : Int32} {a b : Nat} (h : a ≠ 2) : (rnS σ c d).1 a b = σ.1 a b := rnS_k.1 a b h
theorem rnS_2 {σ : xS} {c d : Int32} : (rnS σ c d).2 = σ.2 := rnS_k.2.2
theorem rsS_o {σ : xS} {c : Int32} {a b : Nat} (h : a ≠ 2) : (rsS σ c).1 a b = σ.1 a b := rsS_k.1 a b h
theorem rsS_2 {σ : xS} {c : Int32} : (rsS σ c).2 = σ.2 := rsS_k.2.2
theorem rnS_B {σ : xS} {c d : Int32} {b : Nat} : (rnS σ c d).1 400 b = σ.1 400 b := rnS_o (by decide)
theorem rsS_B {σ : xS} {c : Int32} {b : Nat} : (rsS σ c).1 400 b = σ.1 400 b := rsS_o (by decide)
def roV (σ : xS) : Int32 := if rnV σ 0 48 = -1 then 0 else 1
def roS (σ : xS) : xS := if rnV σ 0 48 = -1 then rnS σ 0 48 else xJ (rnS σ 0 48) 400 0 (xwp_put (σ.2 400 0) (rnV σ 0 48) 0)
def rbV (σ : xS) : Int32 := if rnV σ 1 99 = -1 then 0 else 1
def rbS (σ : xS) : xS := if rnV σ 1 99 = -1 then rnS σ 1 99 else gbsX 400 (rnV σ 1 99) (rnS σ 1 99)
def pX2_readOpen (as : List Value) (σ : xS) : Prop := as = [.ref 2] ∧ (True)
def fX2_readOpen (as : List Value) (σ : xS) : Option Value × xS := match as with
  | [.ref 2] => (some (.int (roV σ)), roS σ)
  | _ => (none, σ)
theorem pX2_readOpen_e {σ : xS} : pX2_readOpen [.ref 2] σ = (True) := propext ⟨fun h => h.2, fun h => ⟨rfl, h⟩⟩
theorem fX2_readOpen_e  {σ : xS} : fX2_readOpen [.ref 2] σ = (some (.int (roV σ)), roS σ) := rfl
def calX2_readOpen : List (Nat × xCall) := [(123, (false, 3, pX2_readNumber, fX2_readNumber)), (141, (false, 3, pX4_putWall, fX4_putWall))]
theorem c_X2_readOpen_123 : xlk calX2_readOpen 123 = some (false, 3, pX2_readNumber, fX2_readNumber) := rfl
theorem c_X2_readOpen_141 : xlk calX2_readOpen 141 = some (false, 3, pX4_putWall, fX4_putWall) := rfl
set_option maxHeartbeats 4000000 in
set_option maxRecDepth 100000 in
theorem mX2_readOpen : xMet WX yX2_readOpen cX2_readOpen 2 (some .boolean) 4 pX2_readOpen fX2_readOpen := by
  refine xMet_of (fld := xlk fldX2) (cal := xlk calX2_readOpen) (ks := xlk []) (gs := xlk []) (ro := fun _ => none) 1 (by decide) WX_nd rfl fldX2_ok xKs_nil xGs_nil (Or.inr rfl) (xcal_cons (xCk_V mX2_readNumber 2 (by decide) (by decide) (by decide) rfl (fun as σ h _ => rX2_readNumber as σ h) w_X2_123 ⟨by decide, by decide, by decide +kernel⟩) (xcal_cons (xCk_V mX4_putWall 4 (by decide) (by decide) (by decide) rfl (fun as σ h _ => rX4_putWall as σ h) w_X2_141 ⟨by decide, by decide, by decide +kernel⟩) xcal_nil)) ?_ ?_
  · rintro av σ ⟨rfl, hpre⟩
    exact Nat.le_of_ble_eq_true rfl
  rintro av σ ⟨rfl, hp1⟩ Rt hR
  refine xgo0 19 ?_
  simp (config := {maxSteps := 2000000}) only [xwp_2, xwp_0, xwp_1, xws_s, xdd_o, xld_0, xld_s, xs1_0, xs1_1, xs1_s, xs2_0, xs2_1, xs2_s, xlg_n, xlg_i, xlg_r, xlg_z, xlg_l, xf4_0, xf4_1, xf4_2, xf4_3, xgo_e, xcmp_eq, xcmp_ne, xcmp_lt, xcmp_ge, xcmp_gt, xcmp_le, xfg_0, xfg_1, xfg_2, xfg_3, xfg_4, xpop_0, xpop_s, xsw_n, xsw_c, xtb_n, xtb_c, xenp_n, xenp_i, xenp_r, xenp_z, xenp_l, xrep_0, xrep_s, Nat.reduceSub, true_and, and_true, cat_i, cat_r, Nat.reduceAdd, Nat.reduceLT, Nat.reduceLeDiff, Nat.reduceEqDiff, xnc, Int.reduceAdd, Int.reduceSub, Int.reduceNeg, Int.reduceLE, Int.reduceLT, Int.reduceToNat, ↓reduceIte, List.length_cons, List.length_nil, xlc0, xlc1, ite_10, i10, i01, i0_2, i0_3, i0_4, i0_6, i0_7, i0_8, i0_49, i0_10, or_true, true_or, or_false, false_or, not_false_eq_true, not_true_eq_false, xnt, xI_g, eq_self, xI_2, xJ_1, false_and, and_false, obT_t, obS_t, ob6_t, ob2_t, ob0_t, kT1_t, kT2_t, kT3_t, kT4_t, lT1, lT2, rT6, rT7, rT8, rT9, rT1i, rT2i, rS2, kSe_t, lSe, r0_0, r0_1, r0_2, r0_3, r0_4, r0_5, r0_6, r0_7, r0_8, r0_9, r1_i, r2_4, r2_5, r4_4, a1_t, a3_t, a5_t, a6_t, a7_t, a8_t, l1, l3, l5, l6, l7, l8, T1, T2, T3, T4, nI8, nI6, nI160, nI20, nI401, nI49, ob5_t, ob1_t, vp_tn, tn_def, lgc, dX2_readOpen_0, st_aload_n, dX2_readOpen_1, st_iconst, dX2_readOpen_2, st_bipush, dX2_readOpen_4, st_invokevirtual, dX2_readOpen_7, st_istore_n, dX2_readOpen_8, st_iload_n, dX2_readOpen_9, dX2_readOpen_10, st_if_icmp, dX2_readOpen_13, dX2_readOpen_14, st_ireturn, dX2_readOpen_15, dX2_readOpen_16, st_getfield, fl_X2_32, dX2_readOpen_19, dX2_readOpen_20, dX2_readOpen_21, dX2_readOpen_24, dX2_readOpen_25, c_X2_readOpen_123, pX2_readNumber_e, fX2_readNumber_e, Option.toList_some, Option.toList_none, List.cons_append, List.nil_append, c_X2_readOpen_141, pX4_putWall_e, fX4_putWall_e, ofI_0, ofI_48, ofI_m1, ofI_1, rnS_B, rnS_2, hp1]
  simp only [hR, fX2_readOpen_e, roV, roS]
  grind
theorem rX2_readOpen : ∀ as σ, pX2_readOpen as σ → ∃ K as', as = .ref K :: as' ∧ xob WX K 2 := by
  rintro as σ ⟨rfl, hpre⟩
  exact ⟨_, _, rfl, by first | exact hpre | exact hpre.1 | exact obT hpre | exact obT hpre.1 | exact obS hpre | exact obS hpre.1 | exact obM | exact ob6 | exact ob2 | exact ob0⟩
def pX2_readBeats (as : List Value) (σ : xS) : Prop := as = [.ref 2] ∧ ((0 ≤ σ.1 400 2) ∧ (σ.1 400 2 ≤ 6))
def fX2_readBeats (as : List Value) (σ : xS) : Option Value × xS := match as with
  | [.ref 2] => (some (.int (rbV σ)), rbS σ)
  | _ => (none, σ)
theorem pX2_readBeats_e {σ : xS} : pX2_readBeats [.ref 2] σ = ((0 ≤ σ.1 400 2) ∧ (σ.1 400 2 ≤ 6)) := propext ⟨fun h => h.2, fun h => ⟨rfl, h⟩⟩
theorem fX2_readBeats_e  {σ : xS} : fX2_readBeats [.ref 2] σ = (some (.int (rbV σ)), rbS σ) := rfl
def calX2_readBeats : List (Nat × xCall) := [(123, (false, 3, pX2_readNumber, fX2_readNumber)), (155, (false, 2, pX4_goBeats, fX4_goBeats))]
theorem c_X2_readBeats_123 : xlk calX2_readBeats 123 = some (false, 3, pX2_readNumber, fX2_readNumber) := rfl
theorem c_X2_readBeats_155 : xlk calX2_readBeats 155 = some (false, 2, pX4_goBeats, fX4_goBeats) := rfl
set_option maxHeartbeats 4000000 in
set_option maxRecDepth 100000 in
theorem mX2_readBeats : xMet WX yX2_readBeats cX2_readBeats 2 (some .boolean) 6 pX2_readBeats fX2_readBeats := by
  refine xMet_of (fld := xlk fldX2) (cal := xlk calX2_readBeats) (ks := xlk []) (gs := xlk []) (ro := fun _ => none) 1 (by decide) WX_nd rfl fldX2_ok xKs_nil xGs_nil (Or.inr rfl) (xcal_cons (xCk_V mX2_readNumber 2 (by decide) (by decide) (by decide) rfl (fun as σ h _ => rX2_readNumber as σ h) w_X2_123 ⟨by decide, by decide, by decide +kernel⟩) (xcal_cons (xCk_V mX4_goBeats 4 (by decide) (by decide) (by decide) rfl (fun as σ h _ => rX4_goBeats as σ h) w_X2_155 ⟨by decide, by decide, by decide +kernel⟩) xcal_nil)) ?_ ?_
  · rintro av σ ⟨rfl, hpre⟩
    exact Nat.le_of_ble_eq_true rfl
  rintro av σ ⟨rfl, ⟨hp1, hp2⟩⟩ Rt hR
  refine xgo0 19 ?_
  simp (config := {maxSteps := 2000000}) only [xwp_2, xwp_0, xwp_1, xws_s, xdd_o, xld_0, xld_s, xs1_0, xs1_1, xs1_s, xs2_0, xs2_1, xs2_s, xlg_n, xlg_i, xlg_r, xlg_z, xlg_l, xf4_0, xf4_1, xf4_2, xf4_3, xgo_e, xcmp_eq, xcmp_ne, xcmp_lt, xcmp_ge, xcmp_gt, xcmp_le, xfg_0, xfg_1, xfg_2, xfg_3, xfg_4, xpop_0, xpop_s, xsw_n, xsw_c, xtb_n, xtb_c, xenp_n, xenp_i, xenp_r, xenp_z, xenp_l, xrep_0, xrep_s, Nat.reduceSub, true_and, and_true, cat_i, cat_r, Nat.reduceAdd, Nat.reduceLT, Nat.reduceLeDiff, Nat.reduceEqDiff, xnc, Int.reduceAdd, Int.reduceSub, Int.reduceNeg, Int.reduceLE, Int.reduceLT, Int.reduceToNat, ↓reduceIte, List.length_cons, List.length_nil, xlc0, xlc1, ite_10, i10, i01, i0_2, i0_3, i0_4, i0_6, i0_7, i0_8, i0_49, i0_10, or_true, true_or, or_false, false_or, not_false_eq_true, not_true_eq_false, xnt, xI_g, eq_self, xI_2, xJ_1, false_and, and_false, obT_t, obS_t, ob6_t, ob2_t, ob0_t, kT1_t, kT2_t, kT3_t, kT4_t, lT1, lT2, rT6, rT7, rT8, rT9, rT1i, rT2i, rS2, kSe_t, lSe, r0_0, r0_1, r0_2, r0_3, r0_4, r0_5, r0_6, r0_7, r0_8, r0_9, r1_i, r2_4, r2_5, r4_4, a1_t, a3_t, a5_t, a6_t, a7_t, a8_t, l1, l3, l5, l6, l7, l8, T1, T2, T3, T4, nI8, nI6, nI160, nI20, nI401, nI49, ob5_t, ob1_t, vp_tn, tn_def, lgc, dX2_readBeats_0, st_aload_n, dX2_readBeats_1, st_iconst, dX2_readBeats_2, st_bipush, dX2_readBeats_4, st_invokevirtual, dX2_readBeats_7, st_istore_n, dX2_readBeats_8, st_iload_n, dX2_readBeats_9, dX2_readBeats_10, st_if_icmp, dX2_readBeats_13, dX2_readBeats_14, st_ireturn, dX2_readBeats_15, dX2_readBeats_16, st_getfield, fl_X2_32, dX2_readBeats_19, dX2_readBeats_20, dX2_readBeats_23, st_pop, dX2_readBeats_24, dX2_readBeats_25, c_X2_readBeats_123, pX2_readNumber_e, fX2_readNumber_e, Option.toList_some, Option.toList_none, List.cons_append, List.nil_append, c_X2_readBeats_155, pX4_goBeats_e, fX4_goBeats_e, ofI_1, ofI_99, ofI_m1, ofI_0, rnS_B, rnS_2, hp1, hp2]
  simp only [hR, fX2_readBeats_e, rbV, rbS]
  grind
theorem rX2_readBeats : ∀ as σ, pX2_readBeats as σ → ∃ K as', as = .ref K :: as' ∧ xob WX K 2 := by
  rintro as σ ⟨rfl, hpre⟩
  exact ⟨_, _, rfl, by first | exact hpre | exact hpre.1 | exact obT hpre | exact obT hpre.1 | exact obS hpre | exact obS hpre.1 | exact obM | exact ob6 | exact ob2 | exact ob0⟩
def atR (σ : xS) (p : Int32) : Bool := xany (fun i => decide (σ.1 (400 + 20 + i) 1 = p)) (tn (σ.1 400 2))
theorem atR_e {σ : xS} {p a b : Int32} : xany (fun i => decide ((rnS σ a b).1 (400 + 20 + i) 1 = p)) (tn (σ.1 400 2)) = atR σ p := by
  unfold atR
  congr 1
  funext i
  rw [rnS_o (by omega)]
theorem atR_f {σ : xS} {p a b : Int32} : xany (fun i => decide ((rnS σ a b).1 (420 + i) 1 = p)) (tn (σ.1 400 2)) = atR σ p := atR_e
def rlV (σ : xS) : Int32 := if rnV σ 0 48 = -1 ∨ atR σ (rnV σ 0 48) = true then 0 else 1
def rlS (σ : xS) : xS := if rnV σ 0 48 = -1 then rnS σ 0 48 else if atR σ (rnV σ 0 48) = true then xI (rnS σ 0 48) 2 0 ((rnS σ 0 48).1 2 3) else xJ (rnS σ 0 48) 400 0 (xwp_put (σ.2 400 0) (rnV σ 0 48) 1)
def pX2_readWall (as : List Value) (σ : xS) : Prop := as = [.ref 2] ∧ (σ.1 400 2 ≤ 6)
def fX2_readWall (as : List Value) (σ : xS) : Option Value × xS := match as with
  | [.ref 2] => (some (.int (rlV σ)), rlS σ)
  | _ => (none, σ)
theorem pX2_readWall_e {σ : xS} : pX2_readWall [.ref 2] σ = (σ.1 400 2 ≤ 6) := propext ⟨fun h => h.2, fun h => ⟨rfl, h⟩⟩
theorem fX2_readWall_e  {σ : xS} : fX2_readWall [.ref 2] σ = (some (.int (rlV σ)), rlS σ) := rfl
def calX2_readWall : List (Nat × xCall) := [(123, (false, 3, pX2_readNumber, fX2_readNumber)), (138, (false, 2, pX4_hasSomebodyAt, fX4_hasSomebodyAt)), (120, (false, 1, pX2_noSuchNumber, fX2_noSuchNumber)), (141, (false, 3, pX4_putWall, fX4_putWall))]
theorem c_X2_readWall_123 : xlk calX2_readWall 123 = some (false, 3, pX2_readNumber, fX2_readNumber) := rfl
theorem c_X2_readWall_138 : xlk calX2_readWall 138 = some (false, 2, pX4_hasSomebodyAt, fX4_hasSomebodyAt) := rfl
theorem c_X2_readWall_120 : xlk calX2_readWall 120 = some (false, 1, pX2_noSuchNumber, fX2_noSuchNumber) := rfl
theorem c_X2_readWall_141 : xlk calX2_readWall 141 = some (false, 3, pX4_putWall, fX4_putWall) := rfl
set_option maxHeartbeats 4000000 in
set_option maxRecDepth 100000 in
theorem mX2_readWall : xMet WX yX2_readWall cX2_readWall 2 (some .boolean) 4 pX2_readWall fX2_readWall := by
  refine xMet_of (fld := xlk fldX2) (cal := xlk calX2_readWall) (ks := xlk []) (gs := xlk []) (ro := fun _ => none) 1 (by decide) WX_nd rfl fldX2_ok xKs_nil xGs_nil (Or.inr rfl) (xcal_cons (xCk_V mX2_readNumber 2 (by decide) (by decide) (by decide) rfl (fun as σ h _ => rX2_readNumber as σ h) w_X2_123 ⟨by decide, by decide, by decide +kernel⟩) (xcal_cons (xCk_V mX4_hasSomebodyAt 4 (by decide) (by decide) (by decide) rfl (fun as σ h _ => rX4_hasSomebodyAt as σ h) w_X2_138 ⟨by decide, by decide, by decide +kernel⟩) (xcal_cons (xCk_V mX2_noSuchNumber 2 (by decide) (by decide) (by decide) rfl (fun as σ h _ => rX2_noSuchNumber as σ h) w_X2_120 ⟨by decide, by decide, by decide +kernel⟩) (xcal_cons (xCk_V mX4_putWall 4 (by decide) (by decide) (by decide) rfl (fun as σ h _ => rX4_putWall as σ h) w_X2_141 ⟨by decide, by decide, by decide +kernel⟩) xcal_nil)))) ?_ ?_
  · rintro av σ ⟨rfl, hpre⟩
    exact Nat.le_of_ble_eq_true rfl
  rintro av σ ⟨rfl, hp1⟩ Rt hR
  refine xgo0 30 ?_
  simp (config := {maxSteps := 2000000}) only [xwp_2, xwp_0, xwp_1, xws_s, xdd_o, xld_0, xld_s, xs1_0, xs1_1, xs1_s, xs2_0, xs2_1, xs2_s, xlg_n, xlg_i, xlg_r, xlg_z, xlg_l, xf4_0, xf4_1, xf4_2, xf4_3, xgo_e, xcmp_eq, xcmp_ne, xcmp_lt, xcmp_ge, xcmp_gt, xcmp_le, xfg_0, xfg_1, xfg_2, xfg_3, xfg_4, xpop_0, xpop_s, xsw_n, xsw_c, xtb_n, xtb_c, xenp_n, xenp_i, xenp_r, xenp_z, xenp_l, xrep_0, xrep_s, Nat.reduceSub, true_and, and_true, cat_i, cat_r, Nat.reduceAdd, Nat.reduceLT, Nat.reduceLeDiff, Nat.reduceEqDiff, xnc, Int.reduceAdd, Int.reduceSub, Int.reduceNeg, Int.reduceLE, Int.reduceLT, Int.reduceToNat, ↓reduceIte, List.length_cons, List.length_nil, xlc0, xlc1, ite_10, i10, i01, i0_2, i0_3, i0_4, i0_6, i0_7, i0_8, i0_49, i0_10, or_true, true_or, or_false, false_or, not_false_eq_true, not_true_eq_false, xnt, xI_g, eq_self, xI_2, xJ_1, false_and, and_false, obT_t, obS_t, ob6_t, ob2_t, ob0_t, kT1_t, kT2_t, kT3_t, kT4_t, lT1, lT2, rT6, rT7, rT8, rT9, rT1i, rT2i, rS2, kSe_t, lSe, r0_0, r0_1, r0_2, r0_3, r0_4, r0_5, r0_6, r0_7, r0_8, r0_9, r1_i, r2_4, r2_5, r4_4, a1_t, a3_t, a5_t, a6_t, a7_t, a8_t, l1, l3, l5, l6, l7, l8, T1, T2, T3, T4, nI8, nI6, nI160, nI20, nI401, nI49, ob5_t, ob1_t, vp_tn, tn_def, lgc, dX2_readWall_0, st_aload_n, dX2_readWall_1, st_iconst, dX2_readWall_2, st_bipush, dX2_readWall_4, st_invokevirtual, dX2_readWall_7, st_istore_n, dX2_readWall_8, st_iload_n, dX2_readWall_9, dX2_readWall_10, st_if_icmp, dX2_readWall_13, dX2_readWall_14, st_getfield, fl_X2_32, dX2_readWall_17, dX2_readWall_18, dX2_readWall_21, st_ifCond, dX2_readWall_24, dX2_readWall_25, dX2_readWall_28, dX2_readWall_29, dX2_readWall_30, dX2_readWall_31, dX2_readWall_34, dX2_readWall_35, st_ireturn, dX2_readWall_36, dX2_readWall_37, dX2_readWall_40, dX2_readWall_41, dX2_readWall_42, dX2_readWall_45, dX2_readWall_46, c_X2_readWall_123, pX2_readNumber_e, fX2_readNumber_e, Option.toList_some, Option.toList_none, List.cons_append, List.nil_append, c_X2_readWall_138, pX4_hasSomebodyAt_e, fX4_hasSomebodyAt_e, c_X2_readWall_120, pX2_noSuchNumber_e, fX2_noSuchNumber_e, c_X2_readWall_141, pX4_putWall_e, fX4_putWall_e, ofI_0, ofI_48, ofI_m1, ofI_1, rnS_B, rnS_2, atR_e, atR_f, hp1]
  have e : xany (fun i => decide ((rnS σ 0 48).1 (420 + i) 1 = rnV σ 0 48)) (tn (σ.1 400 2)) = atR σ (rnV σ 0 48) := atR_e
  simp only [hR, fX2_readWall_e, rlV, rlS]
  grind
theorem rX2_readWall : ∀ as σ, pX2_readWall as σ → ∃ K as', as = .ref K :: as' ∧ xob WX K 2 := by
  rintro as σ ⟨rfl, hpre⟩
  exact ⟨_, _, rfl, by first | exact hpre | exact hpre.1 | exact obT hpre | exact obT hpre.1 | exact obS hpre | exact obS hpre.1 | exact obM | exact ob6 | exact ob2 | exact ob0⟩
def wk1 (σ : xS) : xS := rnS σ 0 6
def wk2 (σ : xS) : xS := rnS (wk1 σ) 0 48
def wk3 (σ : xS) : xS := rnS (wk2 σ) 0 3
def wk4 (σ : xS) : xS := rnS (wk3 σ) 0 (σ.1 400 1 - 1)
def wk5 (σ : xS) : xS := rnS (wk4 σ) 0 9
def wkV (σ : xS) : Int32 := if rnV σ 0 6 = -1 then 0 else if rnV (wk1 σ) 0 48 = -1 then 0 else if xlushr (σ.2 400 0) (rnV (wk1 σ) 0 48) &&& 1 = 1 then 0 else if rnV (wk2 σ) 0 3 = -1 then 0 else if rnV (wk3 σ) 0 (σ.1 400 1 - 1) = -1 then 0 else if rnV (wk4 σ) 0 9 = -1 then 0 else 1
def wkS (σ : xS) : xS := if rnV σ 0 6 = -1 then wk1 σ else if rnV (wk1 σ) 0 48 = -1 then wk2 σ else if xlushr (σ.2 400 0) (rnV (wk1 σ) 0 48) &&& 1 = 1 then xI (wk2 σ) 2 0 ((wk2 σ).1 2 3) else if rnV (wk2 σ) 0 3 = -1 then wk3 σ else if rnV (wk3 σ) 0 (σ.1 400 1 - 1) = -1 then wk4 σ else if rnV (wk4 σ) 0 9 = -1 then wk5 σ else addW (wk5 σ) 400 (400 + 20 + tn (σ.1 400 2)) (rnV σ 0 6) (rnV (wk1 σ) 0 48) (rnV (wk2 σ) 0 3) (rnV (wk3 σ) 0 (σ.1 400 1 - 1)) (rnV (wk4 σ) 0 9)
theorem wk1_e {σ : xS} : rnS σ 0 6 = wk1 σ := rfl
theorem wk2_e {σ : xS} : rnS (wk1 σ) 0 48 = wk2 σ := rfl
theorem wk3_e {σ : xS} : rnS (wk2 σ) 0 3 = wk3 σ := rfl
theorem wk4_e {σ : xS} : rnS (wk3 σ) 0 (σ.1 400 1 - 1) = wk4 σ := rfl
theorem wk5_e {σ : xS} : rnS (wk4 σ) 0 9 = wk5 σ := rfl
theorem wk1_B {σ : xS} {b : Nat} : (wk1 σ).1 400 b = σ.1 400 b := by rw [wk1, rnS_B]
theorem wk2_B {σ : xS} {b : Nat} : (wk2 σ).1 400 b = σ.1 400 b := by rw [wk2, rnS_B, wk1_B]
theorem wk3_B {σ : xS} {b : Nat} : (wk3 σ).1 400 b = σ.1 400 b := by rw [wk3, rnS_B, wk2_B]
theorem wk4_B {σ : xS} {b : Nat} : (wk4 σ).1 400 b = σ.1 400 b := by rw [wk4, rnS_B, wk3_B]
theorem wk5_B {σ : xS} {b : Nat} : (wk5 σ).1 400 b = σ.1 400 b := by rw [wk5, rnS_B, wk4_B]
theorem wk1_2 {σ : xS} : (wk1 σ).2 = σ.2 := by rw [wk1, rnS_2]
theorem wk2_2 {σ : xS} : (wk2 σ).2 = σ.2 := by rw [wk2, rnS_2, wk1_2]
def pX2_readWalker (as : List Value) (σ : xS) : Prop := as = [.ref 2] ∧ ((0 ≤ σ.1 400 2) ∧ (σ.1 400 2 < 6))
def fX2_readWalker (as : List Value) (σ : xS) : Option Value × xS := match as with
  | [.ref 2] => (some (.int (wkV σ)), wkS σ)
  | _ => (none, σ)
theorem pX2_readWalker_e {σ : xS} : pX2_readWalker [.ref 2] σ = ((0 ≤ σ.1 400 2) ∧ (σ.1 400 2 < 6)) := propext ⟨fun h => h.2, fun h => ⟨rfl, h⟩⟩
theorem fX2_readWalker_e  {σ : xS} : fX2_readWalker [.ref 2] σ = (some (.int (wkV σ)), wkS σ) := rfl
def calX2_readWalker : List (Nat × xCall) := [(123, (false, 3, pX2_readNumber, fX2_readNumber)), (145, (false, 2, pX4_isWalled, fX4_isWalled)), (120, (false, 1, pX2_noSuchNumber, fX2_noSuchNumber)), (151, (false, 6, pX4_addWalker, fX4_addWalker))]
theorem c_X2_readWalker_123 : xlk calX2_readWalker 123 = some (false, 3, pX2_readNumber, fX2_readNumber) := rfl
theorem c_X2_readWalker_145 : xlk calX2_readWalker 145 = some (false, 2, pX4_isWalled, fX4_isWalled) := rfl
theorem c_X2_readWalker_120 : xlk calX2_readWalker 120 = some (false, 1, pX2_noSuchNumber, fX2_noSuchNumber) := rfl
theorem c_X2_readWalker_151 : xlk calX2_readWalker 151 = some (false, 6, pX4_addWalker, fX4_addWalker) := rfl
set_option maxHeartbeats 4000000 in
set_option maxRecDepth 100000 in
theorem mX2_readWalker : xMet WX yX2_readWalker cX2_readWalker 6 (some .boolean) 4 pX2_readWalker fX2_readWalker := by
  refine xMet_of (fld := xlk fldX2) (cal := xlk calX2_readWalker) (ks := xlk []) (gs := xlk []) (ro := fun _ => none) 1 (by decide) WX_nd rfl fldX2_ok xKs_nil xGs_nil (Or.inr rfl) (xcal_cons (xCk_V mX2_readNumber 2 (by decide) (by decide) (by decide) rfl (fun as σ h _ => rX2_readNumber as σ h) w_X2_123 ⟨by decide, by decide, by decide +kernel⟩) (xcal_cons (xCk_V mX4_isWalled 4 (by decide) (by decide) (by decide) rfl (fun as σ h _ => rX4_isWalled as σ h) w_X2_145 ⟨by decide, by decide, by decide +kernel⟩) (xcal_cons (xCk_V mX2_noSuchNumber 2 (by decide) (by decide) (by decide) rfl (fun as σ h _ => rX2_noSuchNumber as σ h) w_X2_120 ⟨by decide, by decide, by decide +kernel⟩) (xcal_cons (xCk_V mX4_addWalker 4 (by decide) (by decide) (by decide) rfl (fun as σ h _ => rX4_addWalker as σ h) w_X2_151 ⟨by decide, by decide, by decide +kernel⟩) xcal_nil)))) ?_ ?_
  · rintro av σ ⟨rfl, hpre⟩
    exact Nat.le_of_ble_eq_true rfl
  rintro av σ ⟨rfl, ⟨hp1, hp2⟩⟩ Rt hR
  refine xgo0 78 ?_
  simp (config := {maxSteps := 2000000}) only [xwp_2, xwp_0, xwp_1, xws_s, xdd_o, xld_0, xld_s, xs1_0, xs1_1, xs1_s, xs2_0, xs2_1, xs2_s, xlg_n, xlg_i, xlg_r, xlg_z, xlg_l, xf4_0, xf4_1, xf4_2, xf4_3, xgo_e, xcmp_eq, xcmp_ne, xcmp_lt, xcmp_ge, xcmp_gt, xcmp_le, xfg_0, xfg_1, xfg_2, xfg_3, xfg_4, xpop_0, xpop_s, xsw_n, xsw_c, xtb_n, xtb_c, xenp_n, xenp_i, xenp_r, xenp_z, xenp_l, xrep_0, xrep_s, Nat.reduceSub, true_and, and_true, cat_i, cat_r, Nat.reduceAdd, Nat.reduceLT, Nat.reduceLeDiff, Nat.reduceEqDiff, xnc, Int.reduceAdd, Int.reduceSub, Int.reduceNeg, Int.reduceLE, Int.reduceLT, Int.reduceToNat, ↓reduceIte, List.length_cons, List.length_nil, xlc0, xlc1, ite_10, i10, i01, i0_2, i0_3, i0_4, i0_6, i0_7, i0_8, i0_49, i0_10, or_true, true_or, or_false, false_or, not_false_eq_true, not_true_eq_false, xnt, xI_g, eq_self, xI_2, xJ_1, false_and, and_false, obT_t, obS_t, ob6_t, ob2_t, ob0_t, kT1_t, kT2_t, kT3_t, kT4_t, lT1, lT2, rT6, rT7, rT8, rT9, rT1i, rT2i, rS2, kSe_t, lSe, r0_0, r0_1, r0_2, r0_3, r0_4, r0_5, r0_6, r0_7, r0_8, r0_9, r1_i, r2_4, r2_5, r4_4, a1_t, a3_t, a5_t, a6_t, a7_t, a8_t, l1, l3, l5, l6, l7, l8, T1, T2, T3, T4, nI8, nI6, nI160, nI20, nI401, nI49, ob5_t, ob1_t, vp_tn, tn_def, lgc, dX2_readWalker_0, st_aload_n, dX2_readWalker_1, st_iconst, dX2_readWalker_2, st_bipush, dX2_readWalker_4, st_invokevirtual, dX2_readWalker_7, st_istore_n, dX2_readWalker_8, st_iload_n, dX2_readWalker_9, dX2_readWalker_10, st_if_icmp, dX2_readWalker_13, dX2_readWalker_14, st_goto, dX2_readWalker_17, dX2_readWalker_18, dX2_readWalker_19, dX2_readWalker_21, dX2_readWalker_24, dX2_readWalker_25, dX2_readWalker_26, dX2_readWalker_27, dX2_readWalker_30, dX2_readWalker_31, st_getfield, fl_X2_32, dX2_readWalker_34, dX2_readWalker_35, dX2_readWalker_38, st_ifCond, dX2_readWalker_41, dX2_readWalker_42, dX2_readWalker_45, dX2_readWalker_46, dX2_readWalker_47, dX2_readWalker_48, dX2_readWalker_51, dX2_readWalker_52, dX2_readWalker_55, dX2_readWalker_56, dX2_readWalker_57, dX2_readWalker_58, dX2_readWalker_61, dX2_readWalker_62, dX2_readWalker_63, dX2_readWalker_64, dX2_readWalker_67, dX2_readWalker_68, dX2_readWalker_71, dX2_readWalker_72, dX2_readWalker_73, dX2_readWalker_74, dX2_readWalker_77, fl_X2_148, dX2_readWalker_80, dX2_readWalker_81, st_isub, dX2_readWalker_82, dX2_readWalker_85, st_istore, dX2_readWalker_87, st_iload, dX2_readWalker_89, dX2_readWalker_90, dX2_readWalker_93, dX2_readWalker_94, dX2_readWalker_97, dX2_readWalker_98, dX2_readWalker_99, dX2_readWalker_101, dX2_readWalker_104, dX2_readWalker_106, dX2_readWalker_108, dX2_readWalker_109, dX2_readWalker_112, dX2_readWalker_113, st_ireturn, dX2_readWalker_114, dX2_readWalker_115, dX2_readWalker_118, dX2_readWalker_119, dX2_readWalker_120, dX2_readWalker_121, dX2_readWalker_123, dX2_readWalker_125, dX2_readWalker_128, st_pop, dX2_readWalker_129, dX2_readWalker_130, c_X2_readWalker_123, pX2_readNumber_e, fX2_readNumber_e, Option.toList_some, Option.toList_none, List.cons_append, List.nil_append, c_X2_readWalker_145, pX4_isWalled_e, fX4_isWalled_e, c_X2_readWalker_120, pX2_noSuchNumber_e, fX2_noSuchNumber_e, c_X2_readWalker_151, pX4_addWalker_e, fX4_addWalker_e, ofI_0, ofI_6, ofI_m1, ofI_48, ofI_3, ofI_1, ofI_9, wk1_e, wk1_B, wk2_e, wk2_B, wk3_e, wk3_B, wk4_e, wk4_B, wk5_e, wk5_B, wk1_2, wk2_2, hp1, hp2]
  simp only [hR, fX2_readWalker_e, wkV, wkS]
  grind
theorem rX2_readWalker : ∀ as σ, pX2_readWalker as σ → ∃ K as', as = .ref K :: as' ∧ xob WX K 2 := by
  rintro as σ ⟨rfl, hpre⟩
  exact ⟨_, _, rfl, by first | exact hpre | exact hpre.1 | exact obT hpre | exact obT hpre.1 | exact obS hpre | exact obS hpre.1 | exact obM | exact ob6 | exact ob2 | exact ob0⟩
/-- the reader begins: its letters -/
def bgT (σ : xS) (K : Nat) (i : Nat) : Int32 := (if 0 ≤ nI i ∧ nI i < σ.1 K 1 ∧ nI i < 160 then σ.2 (K + 10) (tn (nI i)) else 0).toInt32
def bgS (σ : xS) (K : Nat) : Nat → xS
  | 0 => xI (xI (xI σ 2 0 0) 2 1 0) 2 2 (σ.1 K 1)
  | i + 1 => xI (bgS σ K i) 3 i (bgT σ K i)
theorem bgS_2 {σ : xS} {K : Nat} : ∀ {i : Nat}, (bgS σ K i).2 = σ.2
  | 0 => rfl
  | i + 1 => bgS_2 (i := i)
theorem bgS_s {σ : xS} {K : Nat} : ∀ {i : Nat}, (bgS σ K i).1 2 2 = σ.1 K 1
  | 0 => xI_s
  | i + 1 => by rw [bgS, xI_n (fun e => absurd e.1 (by decide))]; exact bgS_s
theorem bgS_K {σ : xS} {K b : Nat} (hK : xSh K) : ∀ {i : Nat}, (bgS σ K i).1 K b = σ.1 K b
  | 0 => by
    have h1 := hK.1
    rw [bgS, xI_n (fun e => by omega), xI_n (fun e => by omega), xI_n (fun e => by omega)]
  | i + 1 => by
    have h1 := hK.1
    rw [bgS, xI_n (fun e => by omega)]
    exact bgS_K hK
/-- what a copy of a town leaves, and holds -/
theorem cpT_o {B O a b : Nat} {σ : xS} (hw : tn (σ.1 O 2) ≤ 6) (hg : tn (σ.1 O 1) ≤ 8) (h : a < B ∨ B + 30 ≤ a) : (cpT B O σ).1 a b = σ.1 a b := by
  unfold cpT
  rw [xI_n (by omega), xI_n (by omega), xI_n (by omega), tkW_o (by omega), xI_n (by omega), tkG_o (by omega), xI_n (by omega), xJ_1]
theorem cpT_2 {B O : Nat} {σ : xS} : (cpT B O σ).2 = (xJ σ B 0 (σ.2 O 0)).2 := rfl
theorem ne14 : ((100 : Nat) ≠ 400) = True := eq_true (by decide)
theorem ne41 : ((400 : Nat) ≠ 100) = True := eq_true (by decide)
/-- the reader's town as now, and the letters -/
def stB (σ : xS) (K : Nat) : xS := bgS (cpT 400 100 σ) K (min (tn ((cpT 400 100 σ).1 K 1)) 160)
def pX2_begin (as : List Value) (σ : xS) : Prop := ∃ (K : Nat), as = [.ref 2, .ref K, .ref 100] ∧ ((xSh K) ∧ (σ.1 100 2 ≤ 6) ∧ (σ.1 100 1 ≤ 8))
def fX2_begin (as : List Value) (σ : xS) : Option Value × xS := match as with
  | [.ref 2, .ref K, .ref 100] => (none, stB σ K)
  | _ => (none, σ)
theorem pX2_begin_e {K : Nat} {σ : xS} : pX2_begin [.ref 2, .ref K, .ref 100] σ = ((xSh K) ∧ (σ.1 100 2 ≤ 6) ∧ (σ.1 100 1 ≤ 8)) := propext ⟨fun h => by obtain ⟨K, e, h⟩ := h; cases e; exact h, fun h => ⟨K, rfl, h⟩⟩
theorem fX2_begin_e {K : Nat} {σ : xS} : fX2_begin [.ref 2, .ref K, .ref 100] σ = (none, stB σ K) := rfl
def calX2_begin : List (Nat × xCall) := [(36, (false, 2, pX4_becomeAs, fX4_becomeAs)), (43, (false, 2, pX3_numberAt, fX3_numberAt))]
theorem c_X2_begin_36 : xlk calX2_begin 36 = some (false, 2, pX4_becomeAs, fX4_becomeAs) := rfl
theorem c_X2_begin_43 : xlk calX2_begin 43 = some (false, 2, pX3_numberAt, fX3_numberAt) := rfl
set_option maxHeartbeats 4000000 in
set_option maxRecDepth 100000 in
theorem mX2_begin : xMet WX yX2_begin cX2_begin 4 none 4 pX2_begin fX2_begin := by
  refine xMet_of (fld := xlk fldX2) (cal := xlk calX2_begin) (ks := xlk []) (gs := xlk []) (ro := fun _ => none) 4 (by decide) WX_nd rfl fldX2_ok xKs_nil xGs_nil (Or.inr rfl) (xcal_cons (xCk_V mX4_becomeAs 4 (by decide) (by decide) (by decide) rfl (fun as σ h _ => rX4_becomeAs as σ h) w_X2_36 ⟨by decide, by decide, by decide +kernel⟩) (xcal_cons (xCk_V mX3_numberAt 3 (by decide) (by decide) (by decide) rfl (fun as σ h _ => rX3_numberAt as σ h) w_X2_43 ⟨by decide, by decide, by decide +kernel⟩) xcal_nil)) ?_ ?_
  · rintro av σ ⟨K, rfl, hpre⟩
    exact Nat.le_of_ble_eq_true rfl
  rintro av σ ⟨K, rfl, ⟨hp1, hp2, hp3⟩⟩ Rt hR
  have hR2 : ∀ r t, Rt r t = (r = none ∧ t = bgS (cpT 400 100 σ) K (min (tn ((cpT 400 100 σ).1 K 1)) 160)) := fun r t => by rw [hR, fX2_begin_e, stB]
  obtain ⟨τ, hτ⟩ : ∃ τ, cpT 400 100 σ = τ := ⟨_, rfl⟩
  rw [hτ] at hR2
  clear hR
  have zs : ∀ i, (bgS τ K i).1 2 2 = τ.1 K 1 := fun i => bgS_s
  have z2 : ∀ i, (bgS τ K i).2 = τ.2 := fun i => bgS_2
  have zK : ∀ i b, (bgS τ K i).1 K b = τ.1 K b := fun i b => bgS_K hp1
  refine xfor0 28 (min (tn (τ.1 K 1)) 160) 60 20 (fun i => [some (.ref 2), some (.ref K), some (.ref 100), some (.int (nI i))]) (fun i => bgS τ K i) (fun i => True) (trivial) (fun i hi hH => ?_) ?_
  · simp only [xwp_2, xwp_0, xwp_1, xws_s, xdd_o, xld_0, xld_s, xs1_0, xs1_1, xs1_s, xs2_0, xs2_1, xs2_s, xlg_n, xlg_i, xlg_r, xlg_z, xlg_l, xf4_0, xf4_1, xf4_2, xf4_3, xgo_e, xcmp_eq, xcmp_ne, xcmp_lt, xcmp_ge, xcmp_gt, xcmp_le, xfg_0, xfg_1, xfg_2, xfg_3, xfg_4, xpop_0, xpop_s, xsw_n, xsw_c, xtb_n, xtb_c, xenp_n, xenp_i, xenp_r, xenp_z, xenp_l, xrep_0, xrep_s, Nat.reduceSub, true_and, and_true, cat_i, cat_r, Nat.reduceAdd, Nat.reduceLT, Nat.reduceLeDiff, Nat.reduceEqDiff, xnc, Int.reduceAdd, Int.reduceSub, Int.reduceNeg, Int.reduceLE, Int.reduceLT, Int.reduceToNat, ↓reduceIte, List.length_cons, List.length_nil, xlc0, xlc1, ite_10, i10, i01, i0_2, i0_3, i0_4, i0_6, i0_7, i0_8, i0_49, i0_10, or_true, true_or, or_false, false_or, not_false_eq_true, not_true_eq_false, xnt, xI_g, eq_self, xI_2, xJ_1, false_and, and_false, obT_t, obS_t, ob6_t, ob2_t, ob0_t, kT1_t, kT2_t, kT3_t, kT4_t, lT1, lT2, rT6, rT7, rT8, rT9, rT1i, rT2i, rS2, kSe_t, lSe, r0_0, r0_1, r0_2, r0_3, r0_4, r0_5, r0_6, r0_7, r0_8, r0_9, r1_i, r2_4, r2_5, r4_4, a1_t, a3_t, a5_t, a6_t, a7_t, a8_t, l1, l3, l5, l6, l7, l8, T1, T2, T3, T4, nI8, nI6, nI160, nI20, nI401, nI49, ob5_t, ob1_t, vp_tn, tn_def, lgc, dX2_begin_0, st_aload_n, dX2_begin_1, st_getfield, fl_X2_32, dX2_begin_4, dX2_begin_5, st_invokevirtual, dX2_begin_8, dX2_begin_9, st_iconst, dX2_begin_10, st_putfield, fl_X2_9, dX2_begin_13, dX2_begin_14, dX2_begin_15, fl_X2_15, dX2_begin_18, dX2_begin_19, dX2_begin_20, fl_X2_40, dX2_begin_23, fl_X2_19, dX2_begin_26, dX2_begin_27, st_istore_n, dX2_begin_28, st_iload_n, dX2_begin_29, dX2_begin_30, dX2_begin_33, st_if_icmp, dX2_begin_36, dX2_begin_37, dX2_begin_38, fl_X2_25, dX2_begin_41, st_arraylength, dX2_begin_42, dX2_begin_45, dX2_begin_46, dX2_begin_49, dX2_begin_50, dX2_begin_51, dX2_begin_52, dX2_begin_55, st_iastore, dX2_begin_56, st_iinc, dX2_begin_59, st_goto, dX2_begin_62, st_return_, c_X2_begin_36, pX4_becomeAs_e, fX4_becomeAs_e, Option.toList_some, Option.toList_none, List.cons_append, List.nil_append, c_X2_begin_43, pX3_numberAt_e, fX3_numberAt_e, ofI_0, ofI_1, hp1, hp2, hp3, zs, z2, zK]
    have a1 := le_nI_tn (i := i) (x := τ.1 K 1) (by omega)
    have a2 := le_nI_tn (i := i) (x := 160) (by have : tn 160 = 160 := by decide
                                                omega)
    have a3 : tn 160 = 160 := by decide
    have e1 : xI (bgS τ K i) 3 i (bgT τ K i) = bgS τ K (i + 1) := rfl
    have e2 : (if 0 ≤ nI i ∧ nI i < τ.1 K 1 ∧ nI i < 160 then τ.2 (K + 10) (tn (nI i)) else 0).toInt32 = bgT τ K i := rfl
    refine ⟨fun h => ?_, fun h => ⟨fun h2 => ?_, fun h2 => ?_⟩⟩
    · rw [hR2]
      have e : i = min (tn (τ.1 K 1)) 160 := by
        have := a1.mp h
        omega
      rw [← e]
      exact ⟨rfl, rfl⟩
    · rw [hR2]
      have e : i = min (tn (τ.1 K 1)) 160 := by
        have := a2.mp h2
        omega
      rw [← e]
      exact ⟨rfl, rfl⟩
    · have g1 : i < tn (τ.1 K 1) := by
        rw [a1] at h
        omega
      have g2 : i < 160 := by
        rw [a2] at h2
        omega
      rw [e2, tn_nI (by omega), e1, nI_1]
      first
        | exact ⟨⟨nI_pos' (by omega), g2⟩, by omega, rfl, rfl⟩
        | exact ⟨by omega, rfl, rfl⟩
  · simp only [xwp_2, xwp_0, xwp_1, xws_s, xdd_o, xld_0, xld_s, xs1_0, xs1_1, xs1_s, xs2_0, xs2_1, xs2_s, xlg_n, xlg_i, xlg_r, xlg_z, xlg_l, xf4_0, xf4_1, xf4_2, xf4_3, xgo_e, xcmp_eq, xcmp_ne, xcmp_lt, xcmp_ge, xcmp_gt, xcmp_le, xfg_0, xfg_1, xfg_2, xfg_3, xfg_4, xpop_0, xpop_s, xsw_n, xsw_c, xtb_n, xtb_c, xenp_n, xenp_i, xenp_r, xenp_z, xenp_l, xrep_0, xrep_s, Nat.reduceSub, true_and, and_true, cat_i, cat_r, Nat.reduceAdd, Nat.reduceLT, Nat.reduceLeDiff, Nat.reduceEqDiff, xnc, Int.reduceAdd, Int.reduceSub, Int.reduceNeg, Int.reduceLE, Int.reduceLT, Int.reduceToNat, ↓reduceIte, List.length_cons, List.length_nil, xlc0, xlc1, ite_10, i10, i01, i0_2, i0_3, i0_4, i0_6, i0_7, i0_8, i0_49, i0_10, or_true, true_or, or_false, false_or, not_false_eq_true, not_true_eq_false, xnt, xI_g, eq_self, xI_2, xJ_1, false_and, and_false, obT_t, obS_t, ob6_t, ob2_t, ob0_t, kT1_t, kT2_t, kT3_t, kT4_t, lT1, lT2, rT6, rT7, rT8, rT9, rT1i, rT2i, rS2, kSe_t, lSe, r0_0, r0_1, r0_2, r0_3, r0_4, r0_5, r0_6, r0_7, r0_8, r0_9, r1_i, r2_4, r2_5, r4_4, a1_t, a3_t, a5_t, a6_t, a7_t, a8_t, l1, l3, l5, l6, l7, l8, T1, T2, T3, T4, nI8, nI6, nI160, nI20, nI401, nI49, ob5_t, ob1_t, vp_tn, tn_def, lgc, dX2_begin_0, st_aload_n, dX2_begin_1, st_getfield, fl_X2_32, dX2_begin_4, dX2_begin_5, st_invokevirtual, dX2_begin_8, dX2_begin_9, st_iconst, dX2_begin_10, st_putfield, fl_X2_9, dX2_begin_13, dX2_begin_14, dX2_begin_15, fl_X2_15, dX2_begin_18, dX2_begin_19, dX2_begin_20, fl_X2_40, dX2_begin_23, fl_X2_19, dX2_begin_26, dX2_begin_27, st_istore_n, dX2_begin_28, st_iload_n, dX2_begin_29, dX2_begin_30, dX2_begin_33, st_if_icmp, dX2_begin_36, dX2_begin_37, dX2_begin_38, fl_X2_25, dX2_begin_41, st_arraylength, dX2_begin_42, dX2_begin_45, dX2_begin_46, dX2_begin_49, dX2_begin_50, dX2_begin_51, dX2_begin_52, dX2_begin_55, st_iastore, dX2_begin_56, st_iinc, dX2_begin_59, st_goto, dX2_begin_62, st_return_, c_X2_begin_36, pX4_becomeAs_e, fX4_becomeAs_e, Option.toList_some, Option.toList_none, List.cons_append, List.nil_append, c_X2_begin_43, pX3_numberAt_e, fX3_numberAt_e, ofI_0, ofI_1, hp1, hp2, hp3, hτ, T1, T4, ne41]
    have e0 : xI (xI (xI τ 2 0 0) 2 1 0) 2 2 (τ.1 K 1) = bgS τ K 0 := rfl
    have h1 := hp1.1
    have n1 : (xI (xI τ 2 0 0) 2 1 0).1 K 1 = τ.1 K 1 := by rw [xI_n (fun e => by omega), xI_n (fun e => by omega)]
    have hK2 : ¬ K = 2 := by omega
    first | exact rfl | exact ⟨rfl, rfl⟩ | (simp only [hK2, if_false, false_and, and_false, ite_false, n1, e0]; first | exact rfl | exact ⟨rfl, rfl⟩ | trivial)
theorem rX2_begin : ∀ as σ, pX2_begin as σ → ∃ K as', as = .ref K :: as' ∧ xob WX K 2 := by
  rintro as σ ⟨K, rfl, hpre⟩
  exact ⟨_, _, rfl, by first | exact hpre | exact hpre.1 | exact obT hpre | exact obT hpre.1 | exact obS hpre | exact obS hpre.1 | exact obM | exact ob6 | exact ob2 | exact ob0⟩
