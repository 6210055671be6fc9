def cutM (o : Int32) (v : Int64) : Int64 := if o = 0 then v.toInt32.toInt8.toInt32.toInt64 else if o = 1 then v.toInt32.toInt16.toInt32.toInt64 else if o = 2 then v.toInt32.toInt64 else v
def setM (σ : xS) (s i : Int32) (v : Int64) : Int32 × xS := if ¬ (0 ≤ s ∧ s < 8) then noM σ (-1) else if σ.1 23 (tn s) = 2 then noM σ (-2) else if σ.1 23 (tn s) = 0 then noM σ (-3) else if i < 0 ∨ σ.1 25 (tn s) ≤ i then noM σ (-5) else (1, xJ σ 27 (tn (160 * s + i)) (cutM (σ.1 24 (tn s)) v))
/-- a row's elements become nothing, so far -/
def rzM (b0 i : Nat) (σ : xS) : xS := (σ.1, fun a b => if a = 27 ∧ b0 ≤ b ∧ b < b0 + i then 0 else σ.2 a b)
theorem rzM_s {b0 i : Nat} {σ : xS} : xJ (rzM b0 i σ) 27 (b0 + i) 0 = rzM b0 (i + 1) σ := by
  refine xS_e (fun a b => rfl) (fun a b => ?_)
  show (if a = 27 ∧ b = b0 + i then (0 : Int64) else if a = 27 ∧ b0 ≤ b ∧ b < b0 + i then 0 else σ.2 a b) = if a = 27 ∧ b0 ≤ b ∧ b < b0 + (i + 1) then 0 else σ.2 a b
  by_cases h1 : a = 27 ∧ b = b0 + i
  · rw [if_pos h1, if_pos ⟨h1.1, by omega, by omega⟩]
  · rw [if_neg h1]
    by_cases h2 : a = 27 ∧ b0 ≤ b ∧ b < b0 + i
    · rw [if_pos h2, if_pos ⟨h2.1, by omega, by omega⟩]
    · rw [if_neg h2, if_neg (by omega)]
theorem rzM_0 {b0 : Nat} {σ : xS} : rzM b0 0 σ = σ := by
  refine xS_e (fun a b => rfl) (fun a b => ?_)
  show (if a = 27 ∧ b0 ≤ b ∧ b < b0 + 0 then (0 : Int64) else σ.2 a b) = σ.2 a b
  rw [if_neg (by omega)]
def rowM (σ : xS) (s o n : Int32) : Int32 × xS := if ¬ (0 ≤ s ∧ s < 8) then noM σ (-1) else if n < 0 then noM σ (-4) else if o < 0 ∨ 3 < o then noM σ (-6) else if 160 < n then noM σ (-7) else (1, rzM (160 * tn s) 160 (xI (xI (xI σ 23 (tn s) 1) 24 (tn s) o) 25 (tn s) n))
theorem ixn {s : Int32} (hs : 0 ≤ s ∧ s < 8) (i : Nat) : 160 * s + nI i = nI (160 * tn s + i) := by
  have e : (160 : Int32) = nI 160 := rfl
  have e2 : s = nI (tn s) := (tn_of hs.1).symm
  rw [← nI_add, ← pk_mul, ← e, ← e2]
def pX7_set (as : List Value) (σ : xS) : Prop := ∃ (s : Int32) (i : Int32) (v : Int64), as = [.ref 0, .int s, .int i, .long v] ∧ (∀ s, (0 ≤ s ∧ s < 8) → σ.1 25 (tn s) ≤ 160)
def fX7_set (as : List Value) (σ : xS) : Option Value × xS := match as with
  | [.ref 0, .int s, .int i, .long v] => (some (.int (setM σ s i v).1), (setM σ s i v).2)
  | _ => (none, σ)
theorem pX7_set_e {s : Int32} {i : Int32} {v : Int64} {σ : xS} : pX7_set [.ref 0, .int s, .int i, .long v] σ = (∀ s, (0 ≤ s ∧ s < 8) → σ.1 25 (tn s) ≤ 160) := propext ⟨fun h => by obtain ⟨s, i, v, e, h⟩ := h; cases e; exact h, fun h => ⟨s, i, v, rfl, h⟩⟩
theorem fX7_set_e {s : Int32} {i : Int32} {v : Int64} {σ : xS} : fX7_set [.ref 0, .int s, .int i, .long v] σ = (some (.int (setM σ s i v).1), (setM σ s i v).2) := rfl
def calX7_set : List (Nat × xCall) := [(132, (false, 2, pX7_isShelf, fX7_isShelf)), (136, (false, 2, pX7_no, fX7_no))]
theorem c_X7_set_132 : xlk calX7_set 132 = some (false, 2, pX7_isShelf, fX7_isShelf) := rfl
theorem c_X7_set_136 : xlk calX7_set 136 = some (false, 2, pX7_no, fX7_no) := rfl
set_option maxHeartbeats 4000000 in
set_option maxRecDepth 100000 in
theorem mX7_set : xMet WM yX7_set cX7_set 5 (some .int) 2 pX7_set fX7_set := by
  refine xMet_of (fld := xlk fldX7) (cal := xlk calX7_set) (ks := xlk []) (gs := xlk []) (ro := fun _ => none) 0 (by decide) WM_nd rfl fldX7_ok xKs_nil xGs_nil (Or.inr rfl) (xcal_cons (xCk_V mX7_isShelf 7 (by decide) (by decide) (by decide) rfl (fun as σ h _ => rX7_isShelf as σ h) w_X7_132 ⟨by decide, by decide, by decide +kernel⟩) (xcal_cons (xCk_V mX7_no 7 (by decide) (by decide) (by decide) rfl (fun as σ h _ => rX7_no as σ h) w_X7_136 ⟨by decide, by decide, by decide +kernel⟩) xcal_nil)) ?_ ?_
  · rintro av σ ⟨s, i, v, rfl, hpre⟩
    exact Nat.le_of_ble_eq_true rfl
  rintro av σ ⟨s, i, v, rfl, hp1⟩ Rt hR
  have hR2 := hR2_g (Rt := Rt) (F := setM σ s i v) (fun r s' => by rw [hR, fX7_set_e])
  have h8 : 0 ≤ s ∧ s < 8 → tn s < 8 := tn8
  have h9 : 0 ≤ s ∧ s < 8 → 0 ≤ i → i < σ.1 25 (tn s) → 0 ≤ 160 * s + i ∧ tn (160 * s + i) < 1280 := fun h h2 h3 => ix8 h ⟨h2, lt_le h3 (hp1 s h)⟩
  have hc : ∀ o w, cutM o w = if o = 0 then w.toInt32.toInt8.toInt32.toInt64 else if o = 1 then w.toInt32.toInt16.toInt32.toInt64 else if o = 2 then w.toInt32.toInt64 else w := fun _ _ => rfl
  refine xgo0 83 ?_
  simp -implicitDefEqProofs only [xwp_2, xwp_0, xwp_1, xws_s, xdd_o, xld_0, xld_s, xs1_0, xs1_1, xs1_s, xs2_0, xs2_1, xs2_s, xlg_n, xlg_i, xlg_r, xlg_z, xlg_l, xf4_0, xf4_1, xf4_2, xf4_3, xgo_e, xcmp_eq, xcmp_ne, xcmp_lt, xcmp_ge, xcmp_gt, xcmp_le, xfg_0, xfg_1, xfg_2, xfg_3, xfg_4, xpop_0, xpop_s, xsw_n, xsw_c, xtb_n, xtb_c, xenp_n, xenp_i, xenp_r, xenp_z, xenp_l, xrep_0, xrep_s, Nat.reduceSub, true_and, and_true, cat_i, cat_r, Nat.reduceAdd, Nat.reduceLT, Nat.reduceLeDiff, Nat.reduceEqDiff, xnc, Int.reduceAdd, Int.reduceSub, Int.reduceNeg, Int.reduceLE, Int.reduceLT, Int.reduceToNat, ↓reduceIte, List.length_cons, List.length_nil, xlc0, xlc1, ite_10, i10, i01, i0_2, i0_3, i0_4, i0_6, i0_7, i0_8, i0_49, i0_10, or_true, true_or, or_false, false_or, not_false_eq_true, not_true_eq_false, xnt, xI_g, eq_self, xI_2, xJ_1, false_and, and_false, obM_t, rMi, vp_tn, tn_def, lgc, nI8, nI6, nI160, nI20, nI401, nI49, aM_6, aM_7, aM_8, aM_9, aM_10, aM_11, aM_12, aM_13, aM_14, aM_15, aM_16, aM_17, aM_18, aM_19, aM_20, aM_21, aM_22, aM_23, aM_24, aM_25, aM_26, aM_27, aM_28, aM_29, aM_30, aM_31, aM_38, aM_39, aM_40, aM_41, aM_42, aM_43, aM_44, aM_45, aM_46, aM_47, lM_6, lM_7, lM_8, lM_9, lM_10, lM_11, lM_12, lM_13, lM_14, lM_15, lM_16, lM_17, lM_18, lM_19, lM_20, lM_21, lM_22, lM_23, lM_24, lM_25, lM_26, lM_27, lM_28, lM_29, lM_30, lM_31, lM_38, lM_39, lM_40, lM_41, lM_42, lM_43, lM_44, lM_45, lM_46, lM_47, dX7_set_0, st_aload_n, dX7_set_1, st_iload_n, dX7_set_2, st_invokevirtual, dX7_set_5, st_ifCond, dX7_set_8, dX7_set_9, st_iconst, dX7_set_10, dX7_set_13, st_ireturn, dX7_set_14, dX7_set_15, st_getfield, fl_X7_68, dX7_set_18, dX7_set_19, st_iaload, dX7_set_20, dX7_set_21, st_if_icmp, dX7_set_24, dX7_set_25, st_bipush, dX7_set_27, dX7_set_30, dX7_set_31, dX7_set_32, dX7_set_35, dX7_set_36, dX7_set_37, dX7_set_40, dX7_set_41, dX7_set_43, dX7_set_46, dX7_set_47, dX7_set_48, dX7_set_51, dX7_set_52, dX7_set_53, fl_X7_74, dX7_set_56, dX7_set_57, dX7_set_58, dX7_set_61, dX7_set_62, dX7_set_64, dX7_set_67, dX7_set_68, dX7_set_69, fl_X7_80, dX7_set_72, st_sipush, dX7_set_75, dX7_set_76, st_imul, dX7_set_77, dX7_set_78, st_iadd, dX7_set_79, dX7_set_80, fl_X7_71, dX7_set_83, dX7_set_84, dX7_set_85, dX7_set_88, st_lload_n, dX7_set_89, st_l2i, dX7_set_90, st_i2b, dX7_set_91, st_i2l, dX7_set_92, st_goto, dX7_set_95, dX7_set_96, dX7_set_99, dX7_set_100, dX7_set_101, dX7_set_102, dX7_set_105, dX7_set_106, dX7_set_107, st_i2s, dX7_set_108, dX7_set_109, dX7_set_112, dX7_set_113, dX7_set_116, dX7_set_117, dX7_set_118, dX7_set_119, dX7_set_122, dX7_set_123, dX7_set_124, dX7_set_125, dX7_set_128, dX7_set_129, st_lastore, dX7_set_130, dX7_set_131, c_X7_set_132, pX7_isShelf_e, fX7_isShelf_e, Option.toList_some, Option.toList_none, List.cons_append, List.nil_append, c_X7_set_136, pX7_no_e, fX7_no_e, ofI_m1, ofJ_2, ofI_m2, ofI_m3, ofI_m5, ofI_160, ofJ_1, hp1, nbP_1, nbP_2, nbP_3, nbP_4, nbP_5, nbP_6, nbP_7]
  clear hR
  simp only [hR2, setM, noM, hc]
  clear hR2 hp1 hc
  generalize tn (160 * s + i) = ix at *
  generalize 160 * s + i = iy at *
  grind (splits := 60)
theorem rX7_set : ∀ as σ, pX7_set as σ → ∃ K as', as = .ref K :: as' ∧ xob WM K 7 := by
  rintro as σ ⟨s, i, v, rfl, hpre⟩
  exact ⟨_, _, rfl, by first | exact hpre | exact hpre.1 | exact obT hpre | exact obT hpre.1 | exact obS hpre | exact obS hpre.1 | exact obM | exact ob6 | exact ob2 | exact ob0⟩
