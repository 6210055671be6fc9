/-- three walkers, packed from one on -/
def pkW (σ : xS) (K : Nat) : Int32 := (((σ.1 K 1 * 4 + σ.1 K 2) * 8 + σ.1 K 3) * 8 + σ.1 K 4) * 2 + σ.1 K 5
def pkX (σ : xS) (B : Nat) (x : Int32) : Nat → Int64
  | 0 => 0
  | i + 1 => xlshl (pkX σ B x i) 15 ||| (if σ.1 B 2 ≤ x + nI i then (0 : Int32) else pkW σ (whoK B (x + nI i))).toInt64
theorem pk3 {x : Int32} (hx : x = 0 ∨ x = 3) : ∀ i, i ≤ 3 → (x + 3 ≤ x + nI i ↔ 3 ≤ i) := by
  rcases hx with rfl | rfl <;> decide +kernel
theorem pkl {x : Int32} {i : Nat} : x + nI i + 1 = x + nI (i + 1) := by rw [← nI_1, Int32.add_assoc]
def pX4_packed (as : List Value) (σ : xS) : Prop := ∃ (B : Nat) (x : Int32), as = [.ref B, .int x] ∧ ((xTw B) ∧ (σ.1 B 2 ≤ 6) ∧ (x = 0 ∨ x = 3))
def fX4_packed (as : List Value) (σ : xS) : Option Value × xS := match as with
  | [.ref B, .int x] => (some (.long (pkX σ B x 3)), σ)
  | _ => (none, σ)
theorem pX4_packed_e {B : Nat} {x : Int32} {σ : xS} : pX4_packed [.ref B, .int x] σ = ((xTw B) ∧ (σ.1 B 2 ≤ 6) ∧ (x = 0 ∨ x = 3)) := propext ⟨fun h => by obtain ⟨B, x, e, h⟩ := h; cases e; exact h, fun h => ⟨B, x, rfl, h⟩⟩
theorem fX4_packed_e {B : Nat} {x : Int32} {σ : xS} : fX4_packed [.ref B, .int x] σ = (some (.long (pkX σ B x 3)), σ) := rfl
def calX4_packed : List (Nat × xCall) := [(65, (false, 2, pX4_who, fX4_who)), (114, (false, 1, pX5_packed, fX5_packed))]
theorem c_X4_packed_65 : xlk calX4_packed 65 = some (false, 2, pX4_who, fX4_who) := rfl
theorem c_X4_packed_114 : xlk calX4_packed 114 = some (false, 1, pX5_packed, fX5_packed) := rfl
set_option maxHeartbeats 4000000 in
set_option maxRecDepth 100000 in
theorem mX4_packed : xMet WX yX4_packed cX4_packed 5 (some .long) 2 pX4_packed fX4_packed := by
  refine xMet_of (fld := xlk fldX4) (cal := xlk calX4_packed) (ks := xlk []) (gs := xlk []) (ro := fun _ => none) 2 (by decide) WX_nd rfl fldX4_ok xKs_nil xGs_nil (Or.inr rfl) (xcal_cons (xCk_V mX4_who 4 (by decide) (by decide) (by decide) rfl (fun as σ h _ => rX4_who as σ h) w_X4_65 ⟨by decide, by decide, by decide +kernel⟩) (xcal_cons (xCk_V mX5_packed 5 (by decide) (by decide) (by decide) rfl (fun as σ h _ => rX5_packed as σ h) w_X4_114 ⟨by decide, by decide, by decide +kernel⟩) xcal_nil)) ?_ ?_
  · rintro av σ ⟨B, x, rfl, hpre⟩
    exact Nat.le_of_ble_eq_true rfl
  rintro av σ ⟨B, x, rfl, ⟨hp1, hp2, hp3⟩⟩ Rt hR
  refine xfor0 5 (3) 60 20 (fun i => [some (.ref B), some (.int x), some (.long (pkX σ B x i)), none, some (.int (x + nI i))]) (fun i => σ) (fun i => True) (trivial) (fun i hi hH => ?_) ?_
  · simp only [xwp_2, xwp_0, xwp_1, xws_s, xdd_o, xld_0, xld_s, xs1_0, xs1_1, xs1_s, xs2_0, xs2_1, xs2_s, xlg_n, xlg_i, xlg_r, xlg_z, xlg_l, xf4_0, xf4_1, xf4_2, xf4_3, xgo_e, xcmp_eq, xcmp_ne, xcmp_lt, xcmp_ge, xcmp_gt, xcmp_le, xfg_0, xfg_1, xfg_2, xfg_3, xfg_4, xpop_0, xpop_s, xsw_n, xsw_c, xtb_n, xtb_c, xenp_n, xenp_i, xenp_r, xenp_z, xenp_l, xrep_0, xrep_s, Nat.reduceSub, true_and, and_true, cat_i, cat_r, Nat.reduceAdd, Nat.reduceLT, Nat.reduceLeDiff, Nat.reduceEqDiff, xnc, Int.reduceAdd, Int.reduceSub, Int.reduceNeg, Int.reduceLE, Int.reduceLT, Int.reduceToNat, ↓reduceIte, List.length_cons, List.length_nil, xlc0, xlc1, ite_10, i10, i01, i0_2, i0_3, i0_4, i0_6, i0_7, i0_8, i0_49, i0_10, or_true, true_or, or_false, false_or, not_false_eq_true, not_true_eq_false, xnt, xI_g, eq_self, xI_2, xJ_1, false_and, and_false, obT_t, obS_t, ob6_t, ob2_t, ob0_t, kT1_t, kT2_t, kT3_t, kT4_t, lT1, lT2, rT6, rT7, rT8, rT9, rT1i, rT2i, rS2, kSe_t, lSe, r0_0, r0_1, r0_2, r0_3, r0_4, r0_5, r0_6, r0_7, r0_8, r0_9, r1_i, r2_4, r2_5, r4_4, a1_t, a3_t, a5_t, a6_t, a7_t, a8_t, l1, l3, l5, l6, l7, l8, T1, T2, T3, T4, nI8, nI6, nI160, nI20, nI401, nI49, ob5_t, ob1_t, vp_tn, tn_def, lgc, dX4_packed_0, st_lconst, dX4_packed_1, st_lstore_n, dX4_packed_2, st_iload_n, dX4_packed_3, st_istore, dX4_packed_5, st_iload, dX4_packed_7, dX4_packed_8, st_iconst, dX4_packed_9, st_iadd, dX4_packed_10, st_if_icmp, dX4_packed_13, st_lload_n, dX4_packed_14, st_bipush, dX4_packed_16, st_lshl, dX4_packed_17, dX4_packed_19, st_aload_n, dX4_packed_20, st_getfield, fl_X4_19, dX4_packed_23, dX4_packed_26, dX4_packed_27, dX4_packed_29, st_invokevirtual, dX4_packed_32, dX4_packed_35, st_goto, dX4_packed_38, dX4_packed_39, st_i2l, dX4_packed_40, st_lor, dX4_packed_41, dX4_packed_42, st_iinc, dX4_packed_45, dX4_packed_48, dX4_packed_49, st_lreturn, c_X4_packed_65, pX4_who_e, fX4_who_e, Option.toList_some, Option.toList_none, List.cons_append, List.nil_append, c_X4_packed_114, pX5_packed_e, fX5_packed_e, ofI_3, ofI_15, ofI_0, ofI_1, hp1, hp2, hp3]
    have hc := pk3 hp3 i hi
    have e1 : xlshl (pkX σ B x i) 15 ||| (if σ.1 B 2 ≤ x + nI i then (0 : Int32) else pkW σ (whoK B (x + nI i))).toInt64 = pkX σ B x (i + 1) := rfl
    have e2 : x + nI i + 1 = x + nI (i + 1) := pkl
    have e3 : (((σ.1 (whoK B (x + nI i)) 1 * 4 + σ.1 (whoK B (x + nI i)) 2) * 8 + σ.1 (whoK B (x + nI i)) 3) * 8 + σ.1 (whoK B (x + nI i)) 4) * 2 + σ.1 (whoK B (x + nI i)) 5 = pkW σ (whoK B (x + nI i)) := rfl
    simp only [e2, e3, hc]
    have fin : 3 ≤ i → Rt (some (.long (pkX σ B x i))) σ := fun h => by
      have hn : i = 3 := by omega
      rw [hR, fX4_packed_e, hn]
      exact ⟨rfl, rfl⟩
    grind
  · simp only [xwp_2, xwp_0, xwp_1, xws_s, xdd_o, xld_0, xld_s, xs1_0, xs1_1, xs1_s, xs2_0, xs2_1, xs2_s, xlg_n, xlg_i, xlg_r, xlg_z, xlg_l, xf4_0, xf4_1, xf4_2, xf4_3, xgo_e, xcmp_eq, xcmp_ne, xcmp_lt, xcmp_ge, xcmp_gt, xcmp_le, xfg_0, xfg_1, xfg_2, xfg_3, xfg_4, xpop_0, xpop_s, xsw_n, xsw_c, xtb_n, xtb_c, xenp_n, xenp_i, xenp_r, xenp_z, xenp_l, xrep_0, xrep_s, Nat.reduceSub, true_and, and_true, cat_i, cat_r, Nat.reduceAdd, Nat.reduceLT, Nat.reduceLeDiff, Nat.reduceEqDiff, xnc, Int.reduceAdd, Int.reduceSub, Int.reduceNeg, Int.reduceLE, Int.reduceLT, Int.reduceToNat, ↓reduceIte, List.length_cons, List.length_nil, xlc0, xlc1, ite_10, i10, i01, i0_2, i0_3, i0_4, i0_6, i0_7, i0_8, i0_49, i0_10, or_true, true_or, or_false, false_or, not_false_eq_true, not_true_eq_false, xnt, xI_g, eq_self, xI_2, xJ_1, false_and, and_false, obT_t, obS_t, ob6_t, ob2_t, ob0_t, kT1_t, kT2_t, kT3_t, kT4_t, lT1, lT2, rT6, rT7, rT8, rT9, rT1i, rT2i, rS2, kSe_t, lSe, r0_0, r0_1, r0_2, r0_3, r0_4, r0_5, r0_6, r0_7, r0_8, r0_9, r1_i, r2_4, r2_5, r4_4, a1_t, a3_t, a5_t, a6_t, a7_t, a8_t, l1, l3, l5, l6, l7, l8, T1, T2, T3, T4, nI8, nI6, nI160, nI20, nI401, nI49, ob5_t, ob1_t, vp_tn, tn_def, lgc, dX4_packed_0, st_lconst, dX4_packed_1, st_lstore_n, dX4_packed_2, st_iload_n, dX4_packed_3, st_istore, dX4_packed_5, st_iload, dX4_packed_7, dX4_packed_8, st_iconst, dX4_packed_9, st_iadd, dX4_packed_10, st_if_icmp, dX4_packed_13, st_lload_n, dX4_packed_14, st_bipush, dX4_packed_16, st_lshl, dX4_packed_17, dX4_packed_19, st_aload_n, dX4_packed_20, st_getfield, fl_X4_19, dX4_packed_23, dX4_packed_26, dX4_packed_27, dX4_packed_29, st_invokevirtual, dX4_packed_32, dX4_packed_35, st_goto, dX4_packed_38, dX4_packed_39, st_i2l, dX4_packed_40, st_lor, dX4_packed_41, dX4_packed_42, st_iinc, dX4_packed_45, dX4_packed_48, dX4_packed_49, st_lreturn, c_X4_packed_65, pX4_who_e, fX4_who_e, Option.toList_some, Option.toList_none, List.cons_append, List.nil_append, c_X4_packed_114, pX5_packed_e, fX5_packed_e, ofI_3, ofI_15, ofI_0, ofI_1, hp1, hp2, hp3]
    have e0 : x + nI 0 = x := by rw [show nI 0 = 0 from rfl, Int32.add_zero]
    rw [e0]
    first | exact rfl | exact ⟨rfl, rfl⟩ | exact ⟨rfl, rfl, rfl⟩
theorem rX4_packed : ∀ as σ, pX4_packed as σ → ∃ K as', as = .ref K :: as' ∧ xob WX K 4 := by
  rintro as σ ⟨B, x, rfl, hpre⟩
  exact ⟨_, _, rfl, by first | exact hpre | exact hpre.1 | exact obT hpre | exact obT hpre.1 | exact obS hpre | exact obS hpre.1 | exact obM | exact ob6 | exact ob2 | exact ob0⟩
