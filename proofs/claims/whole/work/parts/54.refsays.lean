/-! what a walker says -/
def syP (σ : xS) (x k : Int32) (i : Nat) : Bool := if k = 1 then decide (¬ nI i = x ∧ σ.1 15 i = σ.1 15 (tn x)) else if k = 2 then decide (¬ nI i = x ∧ σ.1 13 i = σ.1 13 (tn x)) else decide (bsM (σ.1 13 (tn x)) (σ.1 13 i) = 1)
def syN (σ : xS) (x k : Int32) (i : Nat) : Int32 := nI (xcnt (syP σ x k) i)
theorem syN_s {σ : xS} {x k : Int32} {i : Nat} : syN σ x k (i + 1) = if syP σ x k i = true then syN σ x k i + 1 else syN σ x k i := by
  unfold syN
  rw [xcnt]
  split
  · rw [nI_1]
  · rfl
theorem syN_0 {σ : xS} {x k : Int32} : syN σ x k 0 = 0 := rfl
def syV (σ : xS) (x k : Int32) : Int32 := if k = 0 then σ.1 15 (tn x) else if k = 1 ∨ k = 2 ∨ k = 5 then syN σ x k (tn (σ.1 0 1)) else if k = 3 then σ.1 16 (tn x) else if k = 4 then σ.1 17 (tn x) else σ.1 0 0 - 1 - σ.1 15 (tn x)
def syK (k is : Int32) : Prop := ¬ k = 0 ∧ ¬ k = is ∧ ¬ (k = 1 ∧ is = 5) ∧ ¬ (k = 3 ∧ (is = 3 ∨ is = 4 ∨ is = 6))
def sayM (σ : xS) (s k : Int32) : Int32 × xS := if ¬ (0 ≤ s ∧ s < 8) ∨ k < 0 ∨ 6 < k then noM σ (-1) else if σ.1 23 (tn s) = 1 then noM σ (-2) else if σ.1 23 (tn s) = 0 then noM σ (-3) else if (¬ k = 0 ∧ ¬ k = σ.1 11 (tn (σ.1 26 (tn s))) ∧ ¬ (k = 1 ∧ σ.1 11 (tn (σ.1 26 (tn s))) = 5) ∧ ¬ (k = 3 ∧ (σ.1 11 (tn (σ.1 26 (tn s))) = 3 ∨ σ.1 11 (tn (σ.1 26 (tn s))) = 4 ∨ σ.1 11 (tn (σ.1 26 (tn s))) = 6))) then noM σ (-2) else (syV σ (σ.1 26 (tn s)) k, σ)
def sgM (σ : xS) (s k : Int32) : Prop := ¬ (¬ (0 ≤ s ∧ s < 8) ∨ k < 0 ∨ 6 < k) ∧ ¬ σ.1 23 (tn s) = 1 ∧ ¬ σ.1 23 (tn s) = 0 ∧ ¬ (¬ k = 0 ∧ ¬ k = σ.1 11 (tn (σ.1 26 (tn s))) ∧ ¬ (k = 1 ∧ σ.1 11 (tn (σ.1 26 (tn s))) = 5) ∧ ¬ (k = 3 ∧ (σ.1 11 (tn (σ.1 26 (tn s))) = 3 ∨ σ.1 11 (tn (σ.1 26 (tn s))) = 4 ∨ σ.1 11 (tn (σ.1 26 (tn s))) = 6)))
def pX7_says (as : List Value) (σ : xS) : Prop := ∃ (s : Int32) (k : Int32), as = [.ref 0, .int s, .int k] ∧ ((0 ≤ σ.1 0 1) ∧ (σ.1 0 1 ≤ 6) ∧ (∀ s, (0 ≤ s ∧ s < 8) → σ.1 23 (tn s) = 0 ∨ σ.1 23 (tn s) = 1 ∨ (0 ≤ σ.1 26 (tn s) ∧ σ.1 26 (tn s) < σ.1 0 1)))
def fX7_says (as : List Value) (σ : xS) : Option Value × xS := match as with
  | [.ref 0, .int s, .int k] => (some (.int (sayM σ s k).1), (sayM σ s k).2)
  | _ => (none, σ)
theorem pX7_says_e {s : Int32} {k : Int32} {σ : xS} : pX7_says [.ref 0, .int s, .int k] σ = ((0 ≤ σ.1 0 1) ∧ (σ.1 0 1 ≤ 6) ∧ (∀ s, (0 ≤ s ∧ s < 8) → σ.1 23 (tn s) = 0 ∨ σ.1 23 (tn s) = 1 ∨ (0 ≤ σ.1 26 (tn s) ∧ σ.1 26 (tn s) < σ.1 0 1))) := propext ⟨fun h => by obtain ⟨s, k, e, h⟩ := h; cases e; exact h, fun h => ⟨s, k, rfl, h⟩⟩
theorem fX7_says_e {s : Int32} {k : Int32} {σ : xS} : fX7_says [.ref 0, .int s, .int k] σ = (some (.int (sayM σ s k).1), (sayM σ s k).2) := rfl
def calX7_says : List (Nat × xCall) := [(132, (false, 2, pX7_isShelf, fX7_isShelf)), (136, (false, 2, pX7_no, fX7_no)), (143, (false, 2, pX7_isTaker, fX7_isTaker)), (146, (false, 3, pX7_isBeside, fX7_isBeside))]
theorem c_X7_says_132 : xlk calX7_says 132 = some (false, 2, pX7_isShelf, fX7_isShelf) := rfl
theorem c_X7_says_136 : xlk calX7_says 136 = some (false, 2, pX7_no, fX7_no) := rfl
theorem c_X7_says_143 : xlk calX7_says 143 = some (false, 2, pX7_isTaker, fX7_isTaker) := rfl
theorem c_X7_says_146 : xlk calX7_says 146 = some (false, 3, pX7_isBeside, fX7_isBeside) := rfl
set_option maxHeartbeats 4000000 in
set_option maxRecDepth 100000 in
theorem mX7_says : xMet WM yX7_says cX7_says 7 (some .int) 2 pX7_says fX7_says := by
  refine xMet_of (fld := xlk fldX7) (cal := xlk calX7_says) (ks := xlk []) (gs := xlk []) (ro := fun _ => none) 0 (by decide) WM_nd rfl fldX7_ok xKs_nil xGs_nil (Or.inr rfl) (xcal_cons (xCk_V mX7_isShelf 7 (by decide) (by decide) (by decide) rfl (fun as σ h _ => rX7_isShelf as σ h) w_X7_132 ⟨by decide, by decide, by decide +kernel⟩) (xcal_cons (xCk_V mX7_no 7 (by decide) (by decide) (by decide) rfl (fun as σ h _ => rX7_no as σ h) w_X7_136 ⟨by decide, by decide, by decide +kernel⟩) (xcal_cons (xCk_V mX7_isTaker 7 (by decide) (by decide) (by decide) rfl (fun as σ h _ => rX7_isTaker as σ h) w_X7_143 ⟨by decide, by decide, by decide +kernel⟩) (xcal_cons (xCk_V mX7_isBeside 7 (by decide) (by decide) (by decide) rfl (fun as σ h _ => rX7_isBeside as σ h) w_X7_146 ⟨by decide, by decide, by decide +kernel⟩) xcal_nil)))) ?_ ?_
  · rintro av σ ⟨s, k, rfl, hpre⟩
    exact Nat.le_of_ble_eq_true rfl
  rintro av σ ⟨s, k, rfl, ⟨hp1, hp2, hp3⟩⟩ Rt hR
  have hR2 := hR2_g (Rt := Rt) (F := sayM σ s k) (fun r s' => by rw [hR, fX7_says_e])
  clear hR
  have hwk := xwk6 hp2
  have h8 : 0 ≤ s ∧ s < 8 → tn s < 8 := tn8
  have hsh : 0 ≤ s ∧ s < 8 → ¬ σ.1 23 (tn s) = 1 → ¬ σ.1 23 (tn s) = 0 → 0 ≤ σ.1 26 (tn s) ∧ tn (σ.1 26 (tn s)) < 6 := fun hs a1 a2 => by
    have hw := ((hp3 s hs).resolve_left a2).resolve_left a1
    exact ⟨hw.1, tn6 hw hp2⟩
  have h166 : (sgM σ s k ∧ k = 1) → xGo WM 7 (xlk fldX7) (xlk calX7_says) (xlk []) (xlk []) (fun _ => none) 0 cX7_says Rt 166 [some (.ref 0), some (.int s), some (.int k), some (.int (σ.1 26 (tn s))), none, some (.int (syN σ (σ.1 26 (tn s)) 1 0)), some (.int (nI 0))] [] σ := fun hg => by
    obtain ⟨⟨g1, g2, g3, g4⟩, hk⟩ := hg
    have g0 : sayM σ s k = (syN σ (σ.1 26 (tn s)) 1 (tn (σ.1 0 1)), σ) := by rw [sayM, if_neg g1, if_neg g2, if_neg g3, if_neg g4, syV, if_neg (by rw [hk]; decide), if_pos (by rw [hk]; decide), hk]
    rw [g0] at hR2
    have hs : 0 ≤ s ∧ s < 8 := Classical.not_not.mp (fun z => g1 (Or.inl z))
    have hw := (hp3 s hs).resolve_left g3
    have hw := hw.resolve_left g2
    have hw0 := hw.1
    have hw6 := tn6 hw hp2
    clear g0 g1 g2 g3 g4 hs hw hsh
    generalize hx : σ.1 26 (tn s) = x at *
    have h1 : ∀ i, i ≤ tn (σ.1 0 1) → xGo WM 7 (xlk fldX7) (xlk calX7_says) (xlk []) (xlk []) (fun _ => none) 0 cX7_says Rt 166 [some (.ref 0), some (.int s), some (.int k), some (.int (x)), none, some (.int (syN σ (x) 1 i)), some (.int (nI i))] [] (σ) := by
      refine xcount (tn (σ.1 0 1)) (fun i => xGo WM 7 (xlk fldX7) (xlk calX7_says) (xlk []) (xlk []) (fun _ => none) 0 cX7_says Rt 166 [some (.ref 0), some (.int s), some (.int k), some (.int (x)), none, some (.int (syN σ (x) 1 i)), some (.int (nI i))] [] (σ)) (fun i hi ih => ?_)
      have hc := le_nI_tn (i := i) (x := σ.1 0 1) hi
      have e0 : 0 ≤ nI i := nI_pos' (by omega)
      have e1 : nI i + 1 = nI (i + 1) := nI_1 i
      have e2 : tn (nI i) = i := tn_nI (by omega)
      refine xtoCs [(166, xPc (i < tn (σ.1 0 1)) [some (.ref 0), some (.int s), some (.int k), some (.int (x)), none, some (.int (syN σ (x) 1 (i + 1))), some (.int (nI (i + 1)))] (σ))] (xcs_cons (ih) xcs_nil) 34 (fun cf hcf => ?_)
      have k166 : cf 166 = some (xPc (i < tn (σ.1 0 1)) [some (.ref 0), some (.int s), some (.int k), some (.int (x)), none, some (.int (syN σ (x) 1 (i + 1))), some (.int (nI (i + 1)))] (σ)) := (hcf 166).trans rfl
      have kn : ∀ pc, ¬ pc = 166 → cf pc = none := fun pc h0 => by rw [hcf, xlk_c, if_neg h0, xlk_n]
      clear hcf
      simp (config := {maxSteps := 4000000, implicitDefEqProofs := false}) only [xwp_2, xwp_0, xwp_1, xws_s, xdd_o, xld_0, xld_s, xs1_0, xs1_1, xs1_s, xs2_0, xs2_1, xs2_s, xlg_n, xlg_i, xlg_r, xlg_z, xlg_l, xf4_0, xf4_1, xf4_2, xf4_3, xgo_e, xcmp_eq, xcmp_ne, xcmp_lt, xcmp_ge, xcmp_gt, xcmp_le, xfg_0, xfg_1, xfg_2, xfg_3, xfg_4, xpop_0, xpop_s, xsw_n, xsw_c, xtb_n, xtb_c, xenp_n, xenp_i, xenp_r, xenp_z, xenp_l, xrep_0, xrep_s, Nat.reduceSub, true_and, and_true, cat_i, cat_r, Nat.reduceAdd, Nat.reduceLT, Nat.reduceLeDiff, Nat.reduceEqDiff, xnc, Int.reduceAdd, Int.reduceSub, Int.reduceNeg, Int.reduceLE, Int.reduceLT, Int.reduceToNat, ↓reduceIte, List.length_cons, List.length_nil, xlc0, xlc1, ite_10, i10, i01, i0_2, i0_3, i0_4, i0_6, i0_7, i0_8, i0_49, i0_10, or_true, true_or, or_false, false_or, not_false_eq_true, not_true_eq_false, xnt, xI_g, eq_self, xI_2, xJ_1, false_and, and_false, obM_t, rMi, vp_tn, tn_def, lgc, nI8, nI6, nI160, nI20, nI401, nI49, aM_6, aM_7, aM_8, aM_9, aM_10, aM_11, aM_12, aM_13, aM_14, aM_15, aM_16, aM_17, aM_18, aM_19, aM_20, aM_21, aM_22, aM_23, aM_24, aM_25, aM_26, aM_27, aM_28, aM_29, aM_30, aM_31, aM_38, aM_39, aM_40, aM_41, aM_42, aM_43, aM_44, aM_45, aM_46, aM_47, lM_6, lM_7, lM_8, lM_9, lM_10, lM_11, lM_12, lM_13, lM_14, lM_15, lM_16, lM_17, lM_18, lM_19, lM_20, lM_21, lM_22, lM_23, lM_24, lM_25, lM_26, lM_27, lM_28, lM_29, lM_30, lM_31, lM_38, lM_39, lM_40, lM_41, lM_42, lM_43, lM_44, lM_45, lM_46, lM_47, dX7_says_0, st_aload_n, dX7_says_1, st_iload_n, dX7_says_2, st_invokevirtual, dX7_says_5, st_ifCond, dX7_says_8, dX7_says_9, dX7_says_12, dX7_says_13, st_bipush, dX7_says_15, st_if_icmp, dX7_says_18, dX7_says_19, st_iconst, dX7_says_20, dX7_says_23, st_ireturn, dX7_says_24, dX7_says_25, st_getfield, fl_X7_68, dX7_says_28, dX7_says_29, st_iaload, dX7_says_30, dX7_says_31, dX7_says_34, dX7_says_35, dX7_says_37, dX7_says_40, dX7_says_41, dX7_says_42, dX7_says_45, dX7_says_46, dX7_says_47, dX7_says_50, dX7_says_51, dX7_says_53, dX7_says_56, dX7_says_57, dX7_says_58, fl_X7_77, dX7_says_61, dX7_says_62, dX7_says_63, st_istore_n, dX7_says_64, dX7_says_65, fl_X7_32, dX7_says_68, dX7_says_69, dX7_says_70, st_istore, dX7_says_72, dX7_says_73, dX7_says_75, dX7_says_76, dX7_says_79, dX7_says_80, st_iload, dX7_says_82, dX7_says_85, dX7_says_86, dX7_says_87, dX7_says_90, dX7_says_92, dX7_says_93, dX7_says_96, dX7_says_97, dX7_says_98, dX7_says_101, dX7_says_102, dX7_says_104, dX7_says_107, dX7_says_110, dX7_says_111, dX7_says_113, dX7_says_116, dX7_says_117, dX7_says_118, st_tableswitch, dX7_says_156, dX7_says_157, fl_X7_44, dX7_says_160, dX7_says_161, dX7_says_162, dX7_says_163, dX7_says_164, dX7_says_166, dX7_says_168, dX7_says_169, fl_X7_126, dX7_says_172, dX7_says_175, dX7_says_177, dX7_says_178, dX7_says_181, dX7_says_182, dX7_says_185, dX7_says_187, dX7_says_188, dX7_says_189, dX7_says_192, dX7_says_193, dX7_says_194, dX7_says_197, st_iinc, dX7_says_200, dX7_says_203, st_goto, dX7_says_206, dX7_says_208, dX7_says_209, dX7_says_210, dX7_says_212, dX7_says_214, dX7_says_215, dX7_says_218, dX7_says_221, dX7_says_223, dX7_says_224, dX7_says_227, dX7_says_228, fl_X7_38, dX7_says_231, dX7_says_233, dX7_says_234, dX7_says_235, dX7_says_238, dX7_says_239, dX7_says_240, dX7_says_243, dX7_says_246, dX7_says_249, dX7_says_252, dX7_says_254, dX7_says_255, dX7_says_256, fl_X7_47, dX7_says_259, dX7_says_260, dX7_says_261, dX7_says_262, dX7_says_263, fl_X7_50, dX7_says_266, dX7_says_267, dX7_says_268, dX7_says_269, dX7_says_270, dX7_says_272, dX7_says_274, dX7_says_275, dX7_says_278, dX7_says_281, dX7_says_282, dX7_says_283, dX7_says_286, dX7_says_287, dX7_says_288, dX7_says_289, dX7_says_292, dX7_says_294, dX7_says_295, dX7_says_298, dX7_says_301, dX7_says_304, dX7_says_307, dX7_says_310, dX7_says_312, dX7_says_313, dX7_says_314, fl_X7_129, dX7_says_317, dX7_says_318, st_isub, dX7_says_319, dX7_says_320, dX7_says_323, dX7_says_324, dX7_says_325, dX7_says_326, c_X7_says_132, pX7_isShelf_e, fX7_isShelf_e, Option.toList_some, Option.toList_none, List.cons_append, List.nil_append, c_X7_says_136, pX7_no_e, fX7_no_e, c_X7_says_143, pX7_isTaker_e, fX7_isTaker_e, c_X7_says_146, pX7_isBeside_e, fX7_isBeside_e, ofI_6, ofI_m1, ofJ_1, ofI_m2, ofI_m3, ofI_0, ofI_5, ofJ_3, ofJ_2, ofI_4, ofI_7, ofI_8, ofI_9, ofI_10, ofI_11, hp1, hp2, hp3, xwp_s, xcu_s, xcu_n, xPc_e, xsub_0, xsub_n, xsub_s, k166, kn, hc, e0, e1, e2, hw0, hw6, hx]
      have fin : tn (σ.1 0 1) ≤ i → syN σ x 1 i = syN σ x 1 (tn (σ.1 0 1)) := fun h => by rw [show i = tn (σ.1 0 1) by omega]
      have e5 : syP σ x 1 i = decide (¬ nI i = x ∧ σ.1 15 i = σ.1 15 (tn (x))) := by simp [syP]
      have h6 : i < tn (σ.1 0 1) → i < 6 := fun h => by omega
      rw [syN_s, e5]
      simp only [hR2]
      clear hR2 hc ih e5
      generalize syN σ x 1 (tn (σ.1 0 1)) = Z at *
      generalize syN σ x 1 i = U at *
      generalize bsM (σ.1 13 (tn x)) (σ.1 13 i) = bs at *
      grind (splits := 40)
    exact h1 0 (Nat.zero_le _)
  have h212 : (sgM σ s k ∧ k = 2) → xGo WM 7 (xlk fldX7) (xlk calX7_says) (xlk []) (xlk []) (fun _ => none) 0 cX7_says Rt 212 [some (.ref 0), some (.int s), some (.int k), some (.int (σ.1 26 (tn s))), none, some (.int (syN σ (σ.1 26 (tn s)) 2 0)), some (.int (nI 0))] [] σ := fun hg => by
    obtain ⟨⟨g1, g2, g3, g4⟩, hk⟩ := hg
    have g0 : sayM σ s k = (syN σ (σ.1 26 (tn s)) 2 (tn (σ.1 0 1)), σ) := by rw [sayM, if_neg g1, if_neg g2, if_neg g3, if_neg g4, syV, if_neg (by rw [hk]; decide), if_pos (by rw [hk]; decide), hk]
    rw [g0] at hR2
    have hs : 0 ≤ s ∧ s < 8 := Classical.not_not.mp (fun z => g1 (Or.inl z))
    have hw := (hp3 s hs).resolve_left g3
    have hw := hw.resolve_left g2
    have hw0 := hw.1
    have hw6 := tn6 hw hp2
    clear g0 g1 g2 g3 g4 hs hw hsh
    generalize hx : σ.1 26 (tn s) = x at *
    have h1 : ∀ i, i ≤ tn (σ.1 0 1) → xGo WM 7 (xlk fldX7) (xlk calX7_says) (xlk []) (xlk []) (fun _ => none) 0 cX7_says Rt 212 [some (.ref 0), some (.int s), some (.int k), some (.int (x)), none, some (.int (syN σ (x) 2 i)), some (.int (nI i))] [] (σ) := by
      refine xcount (tn (σ.1 0 1)) (fun i => xGo WM 7 (xlk fldX7) (xlk calX7_says) (xlk []) (xlk []) (fun _ => none) 0 cX7_says Rt 212 [some (.ref 0), some (.int s), some (.int k), some (.int (x)), none, some (.int (syN σ (x) 2 i)), some (.int (nI i))] [] (σ)) (fun i hi ih => ?_)
      have hc := le_nI_tn (i := i) (x := σ.1 0 1) hi
      have e0 : 0 ≤ nI i := nI_pos' (by omega)
      have e1 : nI i + 1 = nI (i + 1) := nI_1 i
      have e2 : tn (nI i) = i := tn_nI (by omega)
      refine xtoCs [(212, xPc (i < tn (σ.1 0 1)) [some (.ref 0), some (.int s), some (.int k), some (.int (x)), none, some (.int (syN σ (x) 2 (i + 1))), some (.int (nI (i + 1)))] (σ))] (xcs_cons (ih) xcs_nil) 34 (fun cf hcf => ?_)
      have k212 : cf 212 = some (xPc (i < tn (σ.1 0 1)) [some (.ref 0), some (.int s), some (.int k), some (.int (x)), none, some (.int (syN σ (x) 2 (i + 1))), some (.int (nI (i + 1)))] (σ)) := (hcf 212).trans rfl
      have kn : ∀ pc, ¬ pc = 212 → cf pc = none := fun pc h0 => by rw [hcf, xlk_c, if_neg h0, xlk_n]
      clear hcf
      simp (config := {maxSteps := 4000000, implicitDefEqProofs := false}) only [xwp_2, xwp_0, xwp_1, xws_s, xdd_o, xld_0, xld_s, xs1_0, xs1_1, xs1_s, xs2_0, xs2_1, xs2_s, xlg_n, xlg_i, xlg_r, xlg_z, xlg_l, xf4_0, xf4_1, xf4_2, xf4_3, xgo_e, xcmp_eq, xcmp_ne, xcmp_lt, xcmp_ge, xcmp_gt, xcmp_le, xfg_0, xfg_1, xfg_2, xfg_3, xfg_4, xpop_0, xpop_s, xsw_n, xsw_c, xtb_n, xtb_c, xenp_n, xenp_i, xenp_r, xenp_z, xenp_l, xrep_0, xrep_s, Nat.reduceSub, true_and, and_true, cat_i, cat_r, Nat.reduceAdd, Nat.reduceLT, Nat.reduceLeDiff, Nat.reduceEqDiff, xnc, Int.reduceAdd, Int.reduceSub, Int.reduceNeg, Int.reduceLE, Int.reduceLT, Int.reduceToNat, ↓reduceIte, List.length_cons, List.length_nil, xlc0, xlc1, ite_10, i10, i01, i0_2, i0_3, i0_4, i0_6, i0_7, i0_8, i0_49, i0_10, or_true, true_or, or_false, false_or, not_false_eq_true, not_true_eq_false, xnt, xI_g, eq_self, xI_2, xJ_1, false_and, and_false, obM_t, rMi, vp_tn, tn_def, lgc, nI8, nI6, nI160, nI20, nI401, nI49, aM_6, aM_7, aM_8, aM_9, aM_10, aM_11, aM_12, aM_13, aM_14, aM_15, aM_16, aM_17, aM_18, aM_19, aM_20, aM_21, aM_22, aM_23, aM_24, aM_25, aM_26, aM_27, aM_28, aM_29, aM_30, aM_31, aM_38, aM_39, aM_40, aM_41, aM_42, aM_43, aM_44, aM_45, aM_46, aM_47, lM_6, lM_7, lM_8, lM_9, lM_10, lM_11, lM_12, lM_13, lM_14, lM_15, lM_16, lM_17, lM_18, lM_19, lM_20, lM_21, lM_22, lM_23, lM_24, lM_25, lM_26, lM_27, lM_28, lM_29, lM_30, lM_31, lM_38, lM_39, lM_40, lM_41, lM_42, lM_43, lM_44, lM_45, lM_46, lM_47, dX7_says_0, st_aload_n, dX7_says_1, st_iload_n, dX7_says_2, st_invokevirtual, dX7_says_5, st_ifCond, dX7_says_8, dX7_says_9, dX7_says_12, dX7_says_13, st_bipush, dX7_says_15, st_if_icmp, dX7_says_18, dX7_says_19, st_iconst, dX7_says_20, dX7_says_23, st_ireturn, dX7_says_24, dX7_says_25, st_getfield, fl_X7_68, dX7_says_28, dX7_says_29, st_iaload, dX7_says_30, dX7_says_31, dX7_says_34, dX7_says_35, dX7_says_37, dX7_says_40, dX7_says_41, dX7_says_42, dX7_says_45, dX7_says_46, dX7_says_47, dX7_says_50, dX7_says_51, dX7_says_53, dX7_says_56, dX7_says_57, dX7_says_58, fl_X7_77, dX7_says_61, dX7_says_62, dX7_says_63, st_istore_n, dX7_says_64, dX7_says_65, fl_X7_32, dX7_says_68, dX7_says_69, dX7_says_70, st_istore, dX7_says_72, dX7_says_73, dX7_says_75, dX7_says_76, dX7_says_79, dX7_says_80, st_iload, dX7_says_82, dX7_says_85, dX7_says_86, dX7_says_87, dX7_says_90, dX7_says_92, dX7_says_93, dX7_says_96, dX7_says_97, dX7_says_98, dX7_says_101, dX7_says_102, dX7_says_104, dX7_says_107, dX7_says_110, dX7_says_111, dX7_says_113, dX7_says_116, dX7_says_117, dX7_says_118, st_tableswitch, dX7_says_156, dX7_says_157, fl_X7_44, dX7_says_160, dX7_says_161, dX7_says_162, dX7_says_163, dX7_says_164, dX7_says_166, dX7_says_168, dX7_says_169, fl_X7_126, dX7_says_172, dX7_says_175, dX7_says_177, dX7_says_178, dX7_says_181, dX7_says_182, dX7_says_185, dX7_says_187, dX7_says_188, dX7_says_189, dX7_says_192, dX7_says_193, dX7_says_194, dX7_says_197, st_iinc, dX7_says_200, dX7_says_203, st_goto, dX7_says_206, dX7_says_208, dX7_says_209, dX7_says_210, dX7_says_212, dX7_says_214, dX7_says_215, dX7_says_218, dX7_says_221, dX7_says_223, dX7_says_224, dX7_says_227, dX7_says_228, fl_X7_38, dX7_says_231, dX7_says_233, dX7_says_234, dX7_says_235, dX7_says_238, dX7_says_239, dX7_says_240, dX7_says_243, dX7_says_246, dX7_says_249, dX7_says_252, dX7_says_254, dX7_says_255, dX7_says_256, fl_X7_47, dX7_says_259, dX7_says_260, dX7_says_261, dX7_says_262, dX7_says_263, fl_X7_50, dX7_says_266, dX7_says_267, dX7_says_268, dX7_says_269, dX7_says_270, dX7_says_272, dX7_says_274, dX7_says_275, dX7_says_278, dX7_says_281, dX7_says_282, dX7_says_283, dX7_says_286, dX7_says_287, dX7_says_288, dX7_says_289, dX7_says_292, dX7_says_294, dX7_says_295, dX7_says_298, dX7_says_301, dX7_says_304, dX7_says_307, dX7_says_310, dX7_says_312, dX7_says_313, dX7_says_314, fl_X7_129, dX7_says_317, dX7_says_318, st_isub, dX7_says_319, dX7_says_320, dX7_says_323, dX7_says_324, dX7_says_325, dX7_says_326, c_X7_says_132, pX7_isShelf_e, fX7_isShelf_e, Option.toList_some, Option.toList_none, List.cons_append, List.nil_append, c_X7_says_136, pX7_no_e, fX7_no_e, c_X7_says_143, pX7_isTaker_e, fX7_isTaker_e, c_X7_says_146, pX7_isBeside_e, fX7_isBeside_e, ofI_6, ofI_m1, ofJ_1, ofI_m2, ofI_m3, ofI_0, ofI_5, ofJ_3, ofJ_2, ofI_4, ofI_7, ofI_8, ofI_9, ofI_10, ofI_11, hp1, hp2, hp3, xwp_s, xcu_s, xcu_n, xPc_e, xsub_0, xsub_n, xsub_s, k212, kn, hc, e0, e1, e2, hw0, hw6, hx]
      have fin : tn (σ.1 0 1) ≤ i → syN σ x 2 i = syN σ x 2 (tn (σ.1 0 1)) := fun h => by rw [show i = tn (σ.1 0 1) by omega]
      have e5 : syP σ x 2 i = decide (¬ nI i = x ∧ σ.1 13 i = σ.1 13 (tn (x))) := by simp [syP]
      have h6 : i < tn (σ.1 0 1) → i < 6 := fun h => by omega
      rw [syN_s, e5]
      simp only [hR2]
      clear hR2 hc ih e5
      generalize syN σ x 2 (tn (σ.1 0 1)) = Z at *
      generalize syN σ x 2 i = U at *
      generalize bsM (σ.1 13 (tn x)) (σ.1 13 i) = bs at *
      grind (splits := 40)
    exact h1 0 (Nat.zero_le _)
  have h272 : (sgM σ s k ∧ k = 5) → xGo WM 7 (xlk fldX7) (xlk calX7_says) (xlk []) (xlk []) (fun _ => none) 0 cX7_says Rt 272 [some (.ref 0), some (.int s), some (.int k), some (.int (σ.1 26 (tn s))), none, some (.int (syN σ (σ.1 26 (tn s)) 5 0)), some (.int (nI 0))] [] σ := fun hg => by
    obtain ⟨⟨g1, g2, g3, g4⟩, hk⟩ := hg
    have g0 : sayM σ s k = (syN σ (σ.1 26 (tn s)) 5 (tn (σ.1 0 1)), σ) := by rw [sayM, if_neg g1, if_neg g2, if_neg g3, if_neg g4, syV, if_neg (by rw [hk]; decide), if_pos (by rw [hk]; decide), hk]
    rw [g0] at hR2
    have hs : 0 ≤ s ∧ s < 8 := Classical.not_not.mp (fun z => g1 (Or.inl z))
    have hw := (hp3 s hs).resolve_left g3
    have hw := hw.resolve_left g2
    have hw0 := hw.1
    have hw6 := tn6 hw hp2
    clear g0 g1 g2 g3 g4 hs hw hsh
    generalize hx : σ.1 26 (tn s) = x at *
    have h1 : ∀ i, i ≤ tn (σ.1 0 1) → xGo WM 7 (xlk fldX7) (xlk calX7_says) (xlk []) (xlk []) (fun _ => none) 0 cX7_says Rt 272 [some (.ref 0), some (.int s), some (.int k), some (.int (x)), none, some (.int (syN σ (x) 5 i)), some (.int (nI i))] [] (σ) := by
      refine xcount (tn (σ.1 0 1)) (fun i => xGo WM 7 (xlk fldX7) (xlk calX7_says) (xlk []) (xlk []) (fun _ => none) 0 cX7_says Rt 272 [some (.ref 0), some (.int s), some (.int k), some (.int (x)), none, some (.int (syN σ (x) 5 i)), some (.int (nI i))] [] (σ)) (fun i hi ih => ?_)
      have hc := le_nI_tn (i := i) (x := σ.1 0 1) hi
      have e0 : 0 ≤ nI i := nI_pos' (by omega)
      have e1 : nI i + 1 = nI (i + 1) := nI_1 i
      have e2 : tn (nI i) = i := tn_nI (by omega)
      refine xtoCs [(272, xPc (i < tn (σ.1 0 1)) [some (.ref 0), some (.int s), some (.int k), some (.int (x)), none, some (.int (syN σ (x) 5 (i + 1))), some (.int (nI (i + 1)))] (σ))] (xcs_cons (ih) xcs_nil) 34 (fun cf hcf => ?_)
      have k272 : cf 272 = some (xPc (i < tn (σ.1 0 1)) [some (.ref 0), some (.int s), some (.int k), some (.int (x)), none, some (.int (syN σ (x) 5 (i + 1))), some (.int (nI (i + 1)))] (σ)) := (hcf 272).trans rfl
      have kn : ∀ pc, ¬ pc = 272 → cf pc = none := fun pc h0 => by rw [hcf, xlk_c, if_neg h0, xlk_n]
      clear hcf
      simp (config := {maxSteps := 4000000, implicitDefEqProofs := false}) only [xwp_2, xwp_0, xwp_1, xws_s, xdd_o, xld_0, xld_s, xs1_0, xs1_1, xs1_s, xs2_0, xs2_1, xs2_s, xlg_n, xlg_i, xlg_r, xlg_z, xlg_l, xf4_0, xf4_1, xf4_2, xf4_3, xgo_e, xcmp_eq, xcmp_ne, xcmp_lt, xcmp_ge, xcmp_gt, xcmp_le, xfg_0, xfg_1, xfg_2, xfg_3, xfg_4, xpop_0, xpop_s, xsw_n, xsw_c, xtb_n, xtb_c, xenp_n, xenp_i, xenp_r, xenp_z, xenp_l, xrep_0, xrep_s, Nat.reduceSub, true_and, and_true, cat_i, cat_r, Nat.reduceAdd, Nat.reduceLT, Nat.reduceLeDiff, Nat.reduceEqDiff, xnc, Int.reduceAdd, Int.reduceSub, Int.reduceNeg, Int.reduceLE, Int.reduceLT, Int.reduceToNat, ↓reduceIte, List.length_cons, List.length_nil, xlc0, xlc1, ite_10, i10, i01, i0_2, i0_3, i0_4, i0_6, i0_7, i0_8, i0_49, i0_10, or_true, true_or, or_false, false_or, not_false_eq_true, not_true_eq_false, xnt, xI_g, eq_self, xI_2, xJ_1, false_and, and_false, obM_t, rMi, vp_tn, tn_def, lgc, nI8, nI6, nI160, nI20, nI401, nI49, aM_6, aM_7, aM_8, aM_9, aM_10, aM_11, aM_12, aM_13, aM_14, aM_15, aM_16, aM_17, aM_18, aM_19, aM_20, aM_21, aM_22, aM_23, aM_24, aM_25, aM_26, aM_27, aM_28, aM_29, aM_30, aM_31, aM_38, aM_39, aM_40, aM_41, aM_42, aM_43, aM_44, aM_45, aM_46, aM_47, lM_6, lM_7, lM_8, lM_9, lM_10, lM_11, lM_12, lM_13, lM_14, lM_15, lM_16, lM_17, lM_18, lM_19, lM_20, lM_21, lM_22, lM_23, lM_24, lM_25, lM_26, lM_27, lM_28, lM_29, lM_30, lM_31, lM_38, lM_39, lM_40, lM_41, lM_42, lM_43, lM_44, lM_45, lM_46, lM_47, dX7_says_0, st_aload_n, dX7_says_1, st_iload_n, dX7_says_2, st_invokevirtual, dX7_says_5, st_ifCond, dX7_says_8, dX7_says_9, dX7_says_12, dX7_says_13, st_bipush, dX7_says_15, st_if_icmp, dX7_says_18, dX7_says_19, st_iconst, dX7_says_20, dX7_says_23, st_ireturn, dX7_says_24, dX7_says_25, st_getfield, fl_X7_68, dX7_says_28, dX7_says_29, st_iaload, dX7_says_30, dX7_says_31, dX7_says_34, dX7_says_35, dX7_says_37, dX7_says_40, dX7_says_41, dX7_says_42, dX7_says_45, dX7_says_46, dX7_says_47, dX7_says_50, dX7_says_51, dX7_says_53, dX7_says_56, dX7_says_57, dX7_says_58, fl_X7_77, dX7_says_61, dX7_says_62, dX7_says_63, st_istore_n, dX7_says_64, dX7_says_65, fl_X7_32, dX7_says_68, dX7_says_69, dX7_says_70, st_istore, dX7_says_72, dX7_says_73, dX7_says_75, dX7_says_76, dX7_says_79, dX7_says_80, st_iload, dX7_says_82, dX7_says_85, dX7_says_86, dX7_says_87, dX7_says_90, dX7_says_92, dX7_says_93, dX7_says_96, dX7_says_97, dX7_says_98, dX7_says_101, dX7_says_102, dX7_says_104, dX7_says_107, dX7_says_110, dX7_says_111, dX7_says_113, dX7_says_116, dX7_says_117, dX7_says_118, st_tableswitch, dX7_says_156, dX7_says_157, fl_X7_44, dX7_says_160, dX7_says_161, dX7_says_162, dX7_says_163, dX7_says_164, dX7_says_166, dX7_says_168, dX7_says_169, fl_X7_126, dX7_says_172, dX7_says_175, dX7_says_177, dX7_says_178, dX7_says_181, dX7_says_182, dX7_says_185, dX7_says_187, dX7_says_188, dX7_says_189, dX7_says_192, dX7_says_193, dX7_says_194, dX7_says_197, st_iinc, dX7_says_200, dX7_says_203, st_goto, dX7_says_206, dX7_says_208, dX7_says_209, dX7_says_210, dX7_says_212, dX7_says_214, dX7_says_215, dX7_says_218, dX7_says_221, dX7_says_223, dX7_says_224, dX7_says_227, dX7_says_228, fl_X7_38, dX7_says_231, dX7_says_233, dX7_says_234, dX7_says_235, dX7_says_238, dX7_says_239, dX7_says_240, dX7_says_243, dX7_says_246, dX7_says_249, dX7_says_252, dX7_says_254, dX7_says_255, dX7_says_256, fl_X7_47, dX7_says_259, dX7_says_260, dX7_says_261, dX7_says_262, dX7_says_263, fl_X7_50, dX7_says_266, dX7_says_267, dX7_says_268, dX7_says_269, dX7_says_270, dX7_says_272, dX7_says_274, dX7_says_275, dX7_says_278, dX7_says_281, dX7_says_282, dX7_says_283, dX7_says_286, dX7_says_287, dX7_says_288, dX7_says_289, dX7_says_292, dX7_says_294, dX7_says_295, dX7_says_298, dX7_says_301, dX7_says_304, dX7_says_307, dX7_says_310, dX7_says_312, dX7_says_313, dX7_says_314, fl_X7_129, dX7_says_317, dX7_says_318, st_isub, dX7_says_319, dX7_says_320, dX7_says_323, dX7_says_324, dX7_says_325, dX7_says_326, c_X7_says_132, pX7_isShelf_e, fX7_isShelf_e, Option.toList_some, Option.toList_none, List.cons_append, List.nil_append, c_X7_says_136, pX7_no_e, fX7_no_e, c_X7_says_143, pX7_isTaker_e, fX7_isTaker_e, c_X7_says_146, pX7_isBeside_e, fX7_isBeside_e, ofI_6, ofI_m1, ofJ_1, ofI_m2, ofI_m3, ofI_0, ofI_5, ofJ_3, ofJ_2, ofI_4, ofI_7, ofI_8, ofI_9, ofI_10, ofI_11, hp1, hp2, hp3, xwp_s, xcu_s, xcu_n, xPc_e, xsub_0, xsub_n, xsub_s, k272, kn, hc, e0, e1, e2, hw0, hw6, hx]
      have fin : tn (σ.1 0 1) ≤ i → syN σ x 5 i = syN σ x 5 (tn (σ.1 0 1)) := fun h => by rw [show i = tn (σ.1 0 1) by omega]
      have e5 : syP σ x 5 i = decide (bsM (σ.1 13 (tn (x))) (σ.1 13 i) = 1) := by simp [syP]
      have h6 : i < tn (σ.1 0 1) → i < 6 := fun h => by omega
      rw [syN_s, e5]
      simp only [hR2]
      clear hR2 hc ih e5
      generalize syN σ x 5 (tn (σ.1 0 1)) = Z at *
      generalize syN σ x 5 i = U at *
      generalize bsM (σ.1 13 (tn x)) (σ.1 13 i) = bs at *
      grind (splits := 40)
    exact h1 0 (Nat.zero_le _)
  refine xtoC [(166, xPc (sgM σ s k ∧ k = 1) [some (.ref 0), some (.int s), some (.int k), some (.int (σ.1 26 (tn s))), none, some (.int (syN σ (σ.1 26 (tn s)) 1 0)), some (.int (nI 0))] (σ)), (212, xPc (sgM σ s k ∧ k = 2) [some (.ref 0), some (.int s), some (.int k), some (.int (σ.1 26 (tn s))), none, some (.int (syN σ (σ.1 26 (tn s)) 2 0)), some (.int (nI 0))] (σ)), (272, xPc (sgM σ s k ∧ k = 5) [some (.ref 0), some (.int s), some (.int k), some (.int (σ.1 26 (tn s))), none, some (.int (syN σ (σ.1 26 (tn s)) 5 0)), some (.int (nI 0))] (σ))] (xcs_cons (h166) (xcs_cons (h212) (xcs_cons (h272) xcs_nil))) 82 (fun cf hcf => ?_)
  have k166 : cf 166 = some (xPc (sgM σ s k ∧ k = 1) [some (.ref 0), some (.int s), some (.int k), some (.int (σ.1 26 (tn s))), none, some (.int (syN σ (σ.1 26 (tn s)) 1 0)), some (.int (nI 0))] (σ)) := (hcf 166).trans rfl
  have k212 : cf 212 = some (xPc (sgM σ s k ∧ k = 2) [some (.ref 0), some (.int s), some (.int k), some (.int (σ.1 26 (tn s))), none, some (.int (syN σ (σ.1 26 (tn s)) 2 0)), some (.int (nI 0))] (σ)) := (hcf 212).trans rfl
  have k272 : cf 272 = some (xPc (sgM σ s k ∧ k = 5) [some (.ref 0), some (.int s), some (.int k), some (.int (σ.1 26 (tn s))), none, some (.int (syN σ (σ.1 26 (tn s)) 5 0)), some (.int (nI 0))] (σ)) := (hcf 272).trans rfl
  have kn : ∀ pc, ¬ pc = 166 → ¬ pc = 212 → ¬ pc = 272 → cf pc = none := fun pc h0 h1 h2 => by rw [hcf, xlk_c, if_neg h0, xlk_c, if_neg h1, xlk_c, if_neg h2, xlk_n]
  clear hcf
  simp (config := {maxSteps := 4000000, implicitDefEqProofs := false}) only [xwp_2, xwp_0, xwp_1, xws_s, xdd_o, xld_0, xld_s, xs1_0, xs1_1, xs1_s, xs2_0, xs2_1, xs2_s, xlg_n, xlg_i, xlg_r, xlg_z, xlg_l, xf4_0, xf4_1, xf4_2, xf4_3, xgo_e, xcmp_eq, xcmp_ne, xcmp_lt, xcmp_ge, xcmp_gt, xcmp_le, xfg_0, xfg_1, xfg_2, xfg_3, xfg_4, xpop_0, xpop_s, xsw_n, xsw_c, xtb_n, xtb_c, xenp_n, xenp_i, xenp_r, xenp_z, xenp_l, xrep_0, xrep_s, Nat.reduceSub, true_and, and_true, cat_i, cat_r, Nat.reduceAdd, Nat.reduceLT, Nat.reduceLeDiff, Nat.reduceEqDiff, xnc, Int.reduceAdd, Int.reduceSub, Int.reduceNeg, Int.reduceLE, Int.reduceLT, Int.reduceToNat, ↓reduceIte, List.length_cons, List.length_nil, xlc0, xlc1, ite_10, i10, i01, i0_2, i0_3, i0_4, i0_6, i0_7, i0_8, i0_49, i0_10, or_true, true_or, or_false, false_or, not_false_eq_true, not_true_eq_false, xnt, xI_g, eq_self, xI_2, xJ_1, false_and, and_false, obM_t, rMi, vp_tn, tn_def, lgc, nI8, nI6, nI160, nI20, nI401, nI49, aM_6, aM_7, aM_8, aM_9, aM_10, aM_11, aM_12, aM_13, aM_14, aM_15, aM_16, aM_17, aM_18, aM_19, aM_20, aM_21, aM_22, aM_23, aM_24, aM_25, aM_26, aM_27, aM_28, aM_29, aM_30, aM_31, aM_38, aM_39, aM_40, aM_41, aM_42, aM_43, aM_44, aM_45, aM_46, aM_47, lM_6, lM_7, lM_8, lM_9, lM_10, lM_11, lM_12, lM_13, lM_14, lM_15, lM_16, lM_17, lM_18, lM_19, lM_20, lM_21, lM_22, lM_23, lM_24, lM_25, lM_26, lM_27, lM_28, lM_29, lM_30, lM_31, lM_38, lM_39, lM_40, lM_41, lM_42, lM_43, lM_44, lM_45, lM_46, lM_47, dX7_says_0, st_aload_n, dX7_says_1, st_iload_n, dX7_says_2, st_invokevirtual, dX7_says_5, st_ifCond, dX7_says_8, dX7_says_9, dX7_says_12, dX7_says_13, st_bipush, dX7_says_15, st_if_icmp, dX7_says_18, dX7_says_19, st_iconst, dX7_says_20, dX7_says_23, st_ireturn, dX7_says_24, dX7_says_25, st_getfield, fl_X7_68, dX7_says_28, dX7_says_29, st_iaload, dX7_says_30, dX7_says_31, dX7_says_34, dX7_says_35, dX7_says_37, dX7_says_40, dX7_says_41, dX7_says_42, dX7_says_45, dX7_says_46, dX7_says_47, dX7_says_50, dX7_says_51, dX7_says_53, dX7_says_56, dX7_says_57, dX7_says_58, fl_X7_77, dX7_says_61, dX7_says_62, dX7_says_63, st_istore_n, dX7_says_64, dX7_says_65, fl_X7_32, dX7_says_68, dX7_says_69, dX7_says_70, st_istore, dX7_says_72, dX7_says_73, dX7_says_75, dX7_says_76, dX7_says_79, dX7_says_80, st_iload, dX7_says_82, dX7_says_85, dX7_says_86, dX7_says_87, dX7_says_90, dX7_says_92, dX7_says_93, dX7_says_96, dX7_says_97, dX7_says_98, dX7_says_101, dX7_says_102, dX7_says_104, dX7_says_107, dX7_says_110, dX7_says_111, dX7_says_113, dX7_says_116, dX7_says_117, dX7_says_118, st_tableswitch, dX7_says_156, dX7_says_157, fl_X7_44, dX7_says_160, dX7_says_161, dX7_says_162, dX7_says_163, dX7_says_164, dX7_says_166, dX7_says_168, dX7_says_169, fl_X7_126, dX7_says_172, dX7_says_175, dX7_says_177, dX7_says_178, dX7_says_181, dX7_says_182, dX7_says_185, dX7_says_187, dX7_says_188, dX7_says_189, dX7_says_192, dX7_says_193, dX7_says_194, dX7_says_197, st_iinc, dX7_says_200, dX7_says_203, st_goto, dX7_says_206, dX7_says_208, dX7_says_209, dX7_says_210, dX7_says_212, dX7_says_214, dX7_says_215, dX7_says_218, dX7_says_221, dX7_says_223, dX7_says_224, dX7_says_227, dX7_says_228, fl_X7_38, dX7_says_231, dX7_says_233, dX7_says_234, dX7_says_235, dX7_says_238, dX7_says_239, dX7_says_240, dX7_says_243, dX7_says_246, dX7_says_249, dX7_says_252, dX7_says_254, dX7_says_255, dX7_says_256, fl_X7_47, dX7_says_259, dX7_says_260, dX7_says_261, dX7_says_262, dX7_says_263, fl_X7_50, dX7_says_266, dX7_says_267, dX7_says_268, dX7_says_269, dX7_says_270, dX7_says_272, dX7_says_274, dX7_says_275, dX7_says_278, dX7_says_281, dX7_says_282, dX7_says_283, dX7_says_286, dX7_says_287, dX7_says_288, dX7_says_289, dX7_says_292, dX7_says_294, dX7_says_295, dX7_says_298, dX7_says_301, dX7_says_304, dX7_says_307, dX7_says_310, dX7_says_312, dX7_says_313, dX7_says_314, fl_X7_129, dX7_says_317, dX7_says_318, st_isub, dX7_says_319, dX7_says_320, dX7_says_323, dX7_says_324, dX7_says_325, dX7_says_326, c_X7_says_132, pX7_isShelf_e, fX7_isShelf_e, Option.toList_some, Option.toList_none, List.cons_append, List.nil_append, c_X7_says_136, pX7_no_e, fX7_no_e, c_X7_says_143, pX7_isTaker_e, fX7_isTaker_e, c_X7_says_146, pX7_isBeside_e, fX7_isBeside_e, ofI_6, ofI_m1, ofJ_1, ofI_m2, ofI_m3, ofI_0, ofI_5, ofJ_3, ofJ_2, ofI_4, ofI_7, ofI_8, ofI_9, ofI_10, ofI_11, hp1, hp2, hp3, xwp_s, xcu_s, xcu_n, xPc_e, xsub_0, xsub_n, xsub_s, k166, k212, k272, kn, nI_00, syN_0, nbP_1, nbP_2, nbP_3, nbP_4, nbP_5, nbP_6, nbP_7]
  simp only [hR2, sayM, noM, sgM, syV]
  clear hR2 h166 h212 h272 hp3
  repeat' (first | refine And.intro ?_ ?_ | intro _)
  all_goals grind (splits := 40)
theorem rX7_says : ∀ as σ, pX7_says as σ → ∃ K as', as = .ref K :: as' ∧ xob WM K 7 := by
  rintro as σ ⟨s, k, rfl, hpre⟩
  exact ⟨_, _, rfl, by first | exact hpre | exact hpre.1 | exact obT hpre | exact obT hpre.1 | exact obS hpre | exact obS hpre.1 | exact obM | exact ob6 | exact ob2 | exact ob0⟩
/-- the first who has a gait, looked for from the last on -/
def thF (σ : xS) (g : Int32) (N : Nat) : Nat → Int32
  | 0 => -1
  | i + 1 => if σ.1 15 (N - (i + 1)) = g then nI (N - (i + 1)) else thF σ g N i
theorem thF_s {σ : xS} {g : Int32} {N i : Nat} : thF σ g N (i + 1) = if σ.1 15 (N - (i + 1)) = g then nI (N - (i + 1)) else thF σ g N i := rfl
theorem thF_0 {σ : xS} {g : Int32} {N : Nat} : thF σ g N 0 = -1 := rfl
theorem thF_r {σ : xS} {g : Int32} {N : Nat} (hN : N ≤ 6) : ∀ i, i ≤ N → ¬ thF σ g N i = -1 → 0 ≤ thF σ g N i ∧ tn (thF σ g N i) < N
  | 0, _, h => absurd rfl h
  | i + 1, hi, h => by
    rw [thF_s] at h ⊢
    split at h
    · rename_i h1
      rw [if_pos h1, tn_nI (by omega)]
      exact ⟨nI_pos' (by omega), by omega⟩
    · rename_i h1
      rw [if_neg h1]
      exact thF_r hN i (by omega) h
def thW (σ : xS) (g : Int32) : Int32 := thF σ g (tn (σ.1 0 1)) (tn (σ.1 0 1))
def thiM (σ : xS) (g n : Int32) : Int32 × xS := if ¬ (0 ≤ g ∧ g < σ.1 0 0) then noM σ (-1) else if thW σ g = -1 then noM σ (-5) else if ¬ (0 ≤ n ∧ n ≤ 400) then noM σ (-6) else ((thM σ n).1 13 (tn (thW σ g)), baM (thM σ n))
def pX7_thief (as : List Value) (σ : xS) : Prop := ∃ (g : Int32) (n : Int32), as = [.ref 0, .int g, .int n] ∧ ((0 ≤ σ.1 0 1) ∧ (σ.1 0 1 ≤ 6) ∧ (BOK (bgM σ)))
def fX7_thief (as : List Value) (σ : xS) : Option Value × xS := match as with
  | [.ref 0, .int g, .int n] => (some (.int (thiM σ g n).1), (thiM σ g n).2)
  | _ => (none, σ)
theorem pX7_thief_e {g : Int32} {n : Int32} {σ : xS} : pX7_thief [.ref 0, .int g, .int n] σ = ((0 ≤ σ.1 0 1) ∧ (σ.1 0 1 ≤ 6) ∧ (BOK (bgM σ))) := propext ⟨fun h => by obtain ⟨g, n, e, h⟩ := h; cases e; exact h, fun h => ⟨g, n, rfl, h⟩⟩
theorem fX7_thief_e {g : Int32} {n : Int32} {σ : xS} : fX7_thief [.ref 0, .int g, .int n] σ = (some (.int (thiM σ g n).1), (thiM σ g n).2) := rfl
def calX7_thief : List (Nat × xCall) := [(161, (false, 2, pX7_isGait, fX7_isGait)), (136, (false, 2, pX7_no, fX7_no)), (287, (false, 2, pX7_isBeats, fX7_isBeats)), (290, (false, 1, pX7_begins, fX7_begins)), (293, (false, 2, pX7_go, fX7_go)), (296, (false, 1, pX7_backAgain, fX7_backAgain))]
theorem c_X7_thief_161 : xlk calX7_thief 161 = some (false, 2, pX7_isGait, fX7_isGait) := rfl
theorem c_X7_thief_136 : xlk calX7_thief 136 = some (false, 2, pX7_no, fX7_no) := rfl
theorem c_X7_thief_287 : xlk calX7_thief 287 = some (false, 2, pX7_isBeats, fX7_isBeats) := rfl
theorem c_X7_thief_290 : xlk calX7_thief 290 = some (false, 1, pX7_begins, fX7_begins) := rfl
theorem c_X7_thief_293 : xlk calX7_thief 293 = some (false, 2, pX7_go, fX7_go) := rfl
theorem c_X7_thief_296 : xlk calX7_thief 296 = some (false, 1, pX7_backAgain, fX7_backAgain) := rfl
set_option maxHeartbeats 4000000 in
set_option maxRecDepth 100000 in
theorem mX7_thief : xMet WM yX7_thief cX7_thief 5 (some .int) 5 pX7_thief fX7_thief := by
  refine xMet_of (fld := xlk fldX7) (cal := xlk calX7_thief) (ks := xlk []) (gs := xlk []) (ro := fun _ => none) 0 (by decide) WM_nd rfl fldX7_ok xKs_nil xGs_nil (Or.inr rfl) (xcal_cons (xCk_V mX7_isGait 7 (by decide) (by decide) (by decide) rfl (fun as σ h _ => rX7_isGait as σ h) w_X7_161 ⟨by decide, by decide, by decide +kernel⟩) (xcal_cons (xCk_V mX7_no 7 (by decide) (by decide) (by decide) rfl (fun as σ h _ => rX7_no as σ h) w_X7_136 ⟨by decide, by decide, by decide +kernel⟩) (xcal_cons (xCk_V mX7_isBeats 7 (by decide) (by decide) (by decide) rfl (fun as σ h _ => rX7_isBeats as σ h) w_X7_287 ⟨by decide, by decide, by decide +kernel⟩) (xcal_cons (xCk_V mX7_begins 7 (by decide) (by decide) (by decide) rfl (fun as σ h _ => rX7_begins as σ h) w_X7_290 ⟨by decide, by decide, by decide +kernel⟩) (xcal_cons (xCk_V mX7_go 7 (by decide) (by decide) (by decide) rfl (fun as σ h _ => rX7_go as σ h) w_X7_293 ⟨by decide, by decide, by decide +kernel⟩) (xcal_cons (xCk_V mX7_backAgain 7 (by decide) (by decide) (by decide) rfl (fun as σ h _ => rX7_backAgain as σ h) w_X7_296 ⟨by decide, by decide, by decide +kernel⟩) xcal_nil)))))) ?_ ?_
  · rintro av σ ⟨g, n, rfl, hpre⟩
    exact Nat.le_of_ble_eq_true rfl
  rintro av σ ⟨g, n, rfl, ⟨hp1, hp2, hp3⟩⟩ Rt hR
  have hR2 := hR2_g (Rt := Rt) (F := thiM σ g n) (fun r s' => by rw [hR, fX7_thief_e])
  clear hR
  have hwk := xwk6 hp2
  have hcn : nI (tn (σ.1 0 1)) = σ.1 0 1 := tn_of hp1
  have h24 : (0 ≤ g ∧ g < σ.1 0 0) → xGo WM 5 (xlk fldX7) (xlk calX7_thief) (xlk []) (xlk []) (fun _ => none) 0 cX7_thief Rt 24 [some (.ref 0), some (.int g), some (.int n), some (.int (-1)), some (.int (σ.1 0 1 - 1))] [] σ := fun hg => by
    have g0 : thiM σ g n = if thW σ g = -1 then noM σ (-5) else if ¬ (0 ≤ n ∧ n ≤ 400) then noM σ (-6) else ((thM σ n).1 13 (tn (thW σ g)), baM (thM σ n)) := by rw [thiM, if_neg (fun q => q hg)]
    rw [g0] at hR2
    have hW : thW σ g = thF σ g (tn (σ.1 0 1)) (tn (σ.1 0 1)) := rfl
    have hr := thF_r (σ := σ) (g := g) hwk (tn (σ.1 0 1)) (Nat.le_refl _)
    rw [← hW] at hr
    clear g0
    generalize hN : tn (σ.1 0 1) = N at *
    have h1 : ∀ i, i ≤ N → xGo WM 5 (xlk fldX7) (xlk calX7_thief) (xlk []) (xlk []) (fun _ => none) 0 cX7_thief Rt 24 [some (.ref 0), some (.int g), some (.int n), some (.int (thF σ g N i)), some (.int (nI (N - i) - 1))] [] (σ) := by
      refine xcount (N) (fun i => xGo WM 5 (xlk fldX7) (xlk calX7_thief) (xlk []) (xlk []) (fun _ => none) 0 cX7_thief Rt 24 [some (.ref 0), some (.int g), some (.int n), some (.int (thF σ g N i)), some (.int (nI (N - i) - 1))] [] (σ)) (fun i hi ih => ?_)
      have hcl : nI (N - i) - 1 < 0 ↔ N ≤ i := by
        rw [t_lt, t_sub (by rw [t_nI (by omega), t_1]; omega) (by rw [t_nI (by omega), t_1]; omega), t_nI (by omega), t_1, t_0]
        omega
      refine xtoCs [(24, xPc (i < N) [some (.ref 0), some (.int g), some (.int n), some (.int (thF σ g N (i + 1))), some (.int (nI (N - (i + 1)) - 1))] (σ))] (xcs_cons (ih) xcs_nil) 60 (fun cf hcf => ?_)
      have k24 : cf 24 = some (xPc (i < N) [some (.ref 0), some (.int g), some (.int n), some (.int (thF σ g N (i + 1))), some (.int (nI (N - (i + 1)) - 1))] (σ)) := (hcf 24).trans rfl
      have kn : ∀ pc, ¬ pc = 24 → cf pc = none := fun pc h0 => by rw [hcf, xlk_c, if_neg h0, xlk_n]
      clear hcf
      simp (config := {maxSteps := 4000000, implicitDefEqProofs := false}) only [xwp_2, xwp_0, xwp_1, xws_s, xdd_o, xld_0, xld_s, xs1_0, xs1_1, xs1_s, xs2_0, xs2_1, xs2_s, xlg_n, xlg_i, xlg_r, xlg_z, xlg_l, xf4_0, xf4_1, xf4_2, xf4_3, xgo_e, xcmp_eq, xcmp_ne, xcmp_lt, xcmp_ge, xcmp_gt, xcmp_le, xfg_0, xfg_1, xfg_2, xfg_3, xfg_4, xpop_0, xpop_s, xsw_n, xsw_c, xtb_n, xtb_c, xenp_n, xenp_i, xenp_r, xenp_z, xenp_l, xrep_0, xrep_s, Nat.reduceSub, true_and, and_true, cat_i, cat_r, Nat.reduceAdd, Nat.reduceLT, Nat.reduceLeDiff, Nat.reduceEqDiff, xnc, Int.reduceAdd, Int.reduceSub, Int.reduceNeg, Int.reduceLE, Int.reduceLT, Int.reduceToNat, ↓reduceIte, List.length_cons, List.length_nil, xlc0, xlc1, ite_10, i10, i01, i0_2, i0_3, i0_4, i0_6, i0_7, i0_8, i0_49, i0_10, or_true, true_or, or_false, false_or, not_false_eq_true, not_true_eq_false, xnt, xI_g, eq_self, xI_2, xJ_1, false_and, and_false, obM_t, rMi, vp_tn, tn_def, lgc, nI8, nI6, nI160, nI20, nI401, nI49, aM_6, aM_7, aM_8, aM_9, aM_10, aM_11, aM_12, aM_13, aM_14, aM_15, aM_16, aM_17, aM_18, aM_19, aM_20, aM_21, aM_22, aM_23, aM_24, aM_25, aM_26, aM_27, aM_28, aM_29, aM_30, aM_31, aM_38, aM_39, aM_40, aM_41, aM_42, aM_43, aM_44, aM_45, aM_46, aM_47, lM_6, lM_7, lM_8, lM_9, lM_10, lM_11, lM_12, lM_13, lM_14, lM_15, lM_16, lM_17, lM_18, lM_19, lM_20, lM_21, lM_22, lM_23, lM_24, lM_25, lM_26, lM_27, lM_28, lM_29, lM_30, lM_31, lM_38, lM_39, lM_40, lM_41, lM_42, lM_43, lM_44, lM_45, lM_46, lM_47, dX7_thief_0, st_aload_n, dX7_thief_1, st_iload_n, dX7_thief_2, st_invokevirtual, dX7_thief_5, st_ifCond, dX7_thief_8, dX7_thief_9, st_iconst, dX7_thief_10, dX7_thief_13, st_ireturn, dX7_thief_14, dX7_thief_15, st_istore_n, dX7_thief_16, dX7_thief_17, st_getfield, fl_X7_126, dX7_thief_20, dX7_thief_21, st_isub, dX7_thief_22, st_istore, dX7_thief_24, st_iload, dX7_thief_26, dX7_thief_29, dX7_thief_30, fl_X7_44, dX7_thief_33, dX7_thief_35, st_iaload, dX7_thief_36, dX7_thief_37, st_if_icmp, dX7_thief_40, dX7_thief_42, dX7_thief_43, st_iinc, dX7_thief_46, st_goto, dX7_thief_49, dX7_thief_50, dX7_thief_51, dX7_thief_54, dX7_thief_55, st_bipush, dX7_thief_57, dX7_thief_60, dX7_thief_61, dX7_thief_62, dX7_thief_63, dX7_thief_66, dX7_thief_69, dX7_thief_70, dX7_thief_72, dX7_thief_75, dX7_thief_76, dX7_thief_77, dX7_thief_80, dX7_thief_81, dX7_thief_82, dX7_thief_85, st_pop, dX7_thief_86, dX7_thief_87, fl_X7_38, dX7_thief_90, dX7_thief_91, dX7_thief_92, dX7_thief_94, dX7_thief_95, dX7_thief_98, dX7_thief_100, c_X7_thief_161, pX7_isGait_e, fX7_isGait_e, Option.toList_some, Option.toList_none, List.cons_append, List.nil_append, c_X7_thief_136, pX7_no_e, fX7_no_e, c_X7_thief_287, pX7_isBeats_e, fX7_isBeats_e, c_X7_thief_290, pX7_begins_e, fX7_begins_e, c_X7_thief_293, pX7_go_e, fX7_go_e, c_X7_thief_296, pX7_backAgain_e, fX7_backAgain_e, ofI_m1, ofJ_1, ofI_m5, ofI_m6, hp1, hp2, hp3, xwp_s, xcu_s, xcu_n, xPc_e, xsub_0, xsub_n, xsub_s, k24, kn, hcl, nbP_1, nbP_2, nbP_3, nbP_4, nbP_5, nbP_6, nbP_7, bgM_k, gbM_k, thM_f, thM_k, hp1, hp2, hp3]
      have fin : N ≤ i → thF σ g N i = thW σ g := fun h => by rw [hW, show i = N by omega]
      have e3 : ¬ N ≤ i → nI (N - i) - 1 = nI (N - (i + 1)) := fun h => by
        rw [show N - i = N - (i + 1) + 1 by omega, ← nI_1, Int32.add_sub_cancel]
      have e4 : nI (N - (i + 1)) + -1 = nI (N - (i + 1)) - 1 := by rw [Int32.sub_eq_add_neg]
      have e0 : 0 ≤ nI (N - (i + 1)) := nI_pos' (by omega)
      have e2 : tn (nI (N - (i + 1))) = N - (i + 1) := tn_nI (by omega)
      have h6 : N - (i + 1) < 6 := by omega
      have hr6 : ¬ thW σ g = -1 → 0 ≤ thW σ g ∧ tn (thW σ g) < 6 := fun h => ⟨(hr h).1, by have := (hr h).2; omega⟩
      rw [thF_s]
      simp only [hR2, noM]
      by_cases hle : N ≤ i
      · rw [fin hle]
        clear hR2 hcl ih hN hp3 fin hr hW hcn
        generalize thM σ n = T at *
        grind (splits := 40)
      · simp only [hle, e3 hle, e4, e0, e2, h6]
        clear hR2 hcl ih hN hp3 fin hr hW hcn
        grind (splits := 40)
    have h2 := h1 0 (Nat.zero_le _)
    rw [Nat.sub_zero, hcn] at h2
    exact h2
  refine xtoC [(24, xPc (0 ≤ g ∧ g < σ.1 0 0) [some (.ref 0), some (.int g), some (.int n), some (.int (-1)), some (.int (σ.1 0 1 - 1))] (σ))] (xcs_cons (h24) xcs_nil) 20 (fun cf hcf => ?_)
  have k24 : cf 24 = some (xPc (0 ≤ g ∧ g < σ.1 0 0) [some (.ref 0), some (.int g), some (.int n), some (.int (-1)), some (.int (σ.1 0 1 - 1))] (σ)) := (hcf 24).trans rfl
  have kn : ∀ pc, ¬ pc = 24 → cf pc = none := fun pc h0 => by rw [hcf, xlk_c, if_neg h0, xlk_n]
  clear hcf
  simp (config := {maxSteps := 4000000, implicitDefEqProofs := false}) only [xwp_2, xwp_0, xwp_1, xws_s, xdd_o, xld_0, xld_s, xs1_0, xs1_1, xs1_s, xs2_0, xs2_1, xs2_s, xlg_n, xlg_i, xlg_r, xlg_z, xlg_l, xf4_0, xf4_1, xf4_2, xf4_3, xgo_e, xcmp_eq, xcmp_ne, xcmp_lt, xcmp_ge, xcmp_gt, xcmp_le, xfg_0, xfg_1, xfg_2, xfg_3, xfg_4, xpop_0, xpop_s, xsw_n, xsw_c, xtb_n, xtb_c, xenp_n, xenp_i, xenp_r, xenp_z, xenp_l, xrep_0, xrep_s, Nat.reduceSub, true_and, and_true, cat_i, cat_r, Nat.reduceAdd, Nat.reduceLT, Nat.reduceLeDiff, Nat.reduceEqDiff, xnc, Int.reduceAdd, Int.reduceSub, Int.reduceNeg, Int.reduceLE, Int.reduceLT, Int.reduceToNat, ↓reduceIte, List.length_cons, List.length_nil, xlc0, xlc1, ite_10, i10, i01, i0_2, i0_3, i0_4, i0_6, i0_7, i0_8, i0_49, i0_10, or_true, true_or, or_false, false_or, not_false_eq_true, not_true_eq_false, xnt, xI_g, eq_self, xI_2, xJ_1, false_and, and_false, obM_t, rMi, vp_tn, tn_def, lgc, nI8, nI6, nI160, nI20, nI401, nI49, aM_6, aM_7, aM_8, aM_9, aM_10, aM_11, aM_12, aM_13, aM_14, aM_15, aM_16, aM_17, aM_18, aM_19, aM_20, aM_21, aM_22, aM_23, aM_24, aM_25, aM_26, aM_27, aM_28, aM_29, aM_30, aM_31, aM_38, aM_39, aM_40, aM_41, aM_42, aM_43, aM_44, aM_45, aM_46, aM_47, lM_6, lM_7, lM_8, lM_9, lM_10, lM_11, lM_12, lM_13, lM_14, lM_15, lM_16, lM_17, lM_18, lM_19, lM_20, lM_21, lM_22, lM_23, lM_24, lM_25, lM_26, lM_27, lM_28, lM_29, lM_30, lM_31, lM_38, lM_39, lM_40, lM_41, lM_42, lM_43, lM_44, lM_45, lM_46, lM_47, dX7_thief_0, st_aload_n, dX7_thief_1, st_iload_n, dX7_thief_2, st_invokevirtual, dX7_thief_5, st_ifCond, dX7_thief_8, dX7_thief_9, st_iconst, dX7_thief_10, dX7_thief_13, st_ireturn, dX7_thief_14, dX7_thief_15, st_istore_n, dX7_thief_16, dX7_thief_17, st_getfield, fl_X7_126, dX7_thief_20, dX7_thief_21, st_isub, dX7_thief_22, st_istore, dX7_thief_24, st_iload, dX7_thief_26, dX7_thief_29, dX7_thief_30, fl_X7_44, dX7_thief_33, dX7_thief_35, st_iaload, dX7_thief_36, dX7_thief_37, st_if_icmp, dX7_thief_40, dX7_thief_42, dX7_thief_43, st_iinc, dX7_thief_46, st_goto, dX7_thief_49, dX7_thief_50, dX7_thief_51, dX7_thief_54, dX7_thief_55, st_bipush, dX7_thief_57, dX7_thief_60, dX7_thief_61, dX7_thief_62, dX7_thief_63, dX7_thief_66, dX7_thief_69, dX7_thief_70, dX7_thief_72, dX7_thief_75, dX7_thief_76, dX7_thief_77, dX7_thief_80, dX7_thief_81, dX7_thief_82, dX7_thief_85, st_pop, dX7_thief_86, dX7_thief_87, fl_X7_38, dX7_thief_90, dX7_thief_91, dX7_thief_92, dX7_thief_94, dX7_thief_95, dX7_thief_98, dX7_thief_100, c_X7_thief_161, pX7_isGait_e, fX7_isGait_e, Option.toList_some, Option.toList_none, List.cons_append, List.nil_append, c_X7_thief_136, pX7_no_e, fX7_no_e, c_X7_thief_287, pX7_isBeats_e, fX7_isBeats_e, c_X7_thief_290, pX7_begins_e, fX7_begins_e, c_X7_thief_293, pX7_go_e, fX7_go_e, c_X7_thief_296, pX7_backAgain_e, fX7_backAgain_e, ofI_m1, ofJ_1, ofI_m5, ofI_m6, hp1, hp2, hp3, xwp_s, xcu_s, xcu_n, xPc_e, xsub_0, xsub_n, xsub_s, k24, kn, nbP_1, nbP_2, nbP_3, nbP_4, nbP_5, nbP_6, nbP_7]
  simp only [hR2, thiM, noM]
  clear hR2 h24 hp3
  grind (splits := 40)
theorem rX7_thief : ∀ as σ, pX7_thief as σ → ∃ K as', as = .ref K :: as' ∧ xob WM K 7 := by
  rintro as σ ⟨g, n, rfl, hpre⟩
  exact ⟨_, _, rfl, by first | exact hpre | exact hpre.1 | exact obT hpre | exact obT hpre.1 | exact obS hpre | exact obS hpre.1 | exact obM | exact ob6 | exact ob2 | exact ob0⟩
def siB (σ : xS) (s : Int32) (i : Nat) : Bool := decide (¬ (0 ≤ inM σ s (3 * nI i) ∧ inM σ s (3 * nI i) ≤ 400) ∨ ¬ (0 ≤ inM σ s (3 * nI i + 1) ∧ inM σ s (3 * nI i + 1) < 49) ∨ ¬ (0 ≤ inM σ s (3 * nI i + 2) ∧ inM σ s (3 * nI i + 2) < σ.1 0 0))
def sitM (σ : xS) (s n : Int32) : Int32 := if ¬ brM σ s n 3 = 0 then brM σ s n 3 else if 10 < n then -6 else if xany (siB σ s) (tn n) = true then -6 else 0
theorem ix3 {s : Int32} (hs : 0 ≤ s ∧ s < 8) (i : Nat) : 160 * s + 3 * nI i = nI (160 * tn s + 3 * i) ∧ 160 * s + (3 * nI i + 1) = nI (160 * tn s + 3 * i + 1) ∧ 160 * s + (3 * nI i + 2) = nI (160 * tn s + 3 * i + 2) := by
  have e : (160 : Int32) = nI 160 := rfl
  have e3 : (3 : Int32) = nI 3 := rfl
  have e1 : (1 : Int32) = nI 1 := rfl
  have e2 : (2 : Int32) = nI 2 := rfl
  have a : 160 * s + 3 * nI i = nI (160 * tn s + 3 * i) := by rw [e3, pk_mul, ixn hs]
  refine ⟨a, ?_, ?_⟩
  · rw [← Int32.add_assoc, a, e1, nI_add]
  · rw [← Int32.add_assoc, a, e2, nI_add]
theorem ix3b {s : Int32} (hs : 0 ≤ s ∧ s < 8) {i : Nat} (hi : i ≤ 10) : (0 ≤ 160 * s + 3 * nI i ∧ tn (160 * s + 3 * nI i) < 1280) ∧ (0 ≤ 160 * s + (3 * nI i + 1) ∧ tn (160 * s + (3 * nI i + 1)) < 1280) ∧ (0 ≤ 160 * s + (3 * nI i + 2) ∧ tn (160 * s + (3 * nI i + 2)) < 1280) := by
  have h8 := tn8 hs
  obtain ⟨a, b, c⟩ := ix3 hs i
  rw [a, b, c, tn_nI (by omega), tn_nI (by omega), tn_nI (by omega)]
  exact ⟨⟨nI_pos' (by omega), by omega⟩, ⟨nI_pos' (by omega), by omega⟩, ⟨nI_pos' (by omega), by omega⟩⟩
def pX7_sights (as : List Value) (σ : xS) : Prop := ∃ (s : Int32) (n : Int32), as = [.ref 0, .int s, .int n] ∧ (True)
def fX7_sights (as : List Value) (σ : xS) : Option Value × xS := match as with
  | [.ref 0, .int s, .int n] => (some (.int (sitM σ s n)), σ)
  | _ => (none, σ)
theorem pX7_sights_e {s : Int32} {n : Int32} {σ : xS} : pX7_sights [.ref 0, .int s, .int n] σ = (True) := propext ⟨fun h => by obtain ⟨s, n, e, h⟩ := h; cases e; exact h, fun h => ⟨s, n, rfl, h⟩⟩
theorem fX7_sights_e {s : Int32} {n : Int32} {σ : xS} : fX7_sights [.ref 0, .int s, .int n] σ = (some (.int (sitM σ s n)), σ) := rfl
def calX7_sights : List (Nat × xCall) := [(153, (false, 4, pX7_bars, fX7_bars)), (157, (false, 3, pX7_intAt, fX7_intAt)), (287, (false, 2, pX7_isBeats, fX7_isBeats)), (167, (false, 2, pX7_isPlace, fX7_isPlace)), (161, (false, 2, pX7_isGait, fX7_isGait))]
theorem c_X7_sights_153 : xlk calX7_sights 153 = some (false, 4, pX7_bars, fX7_bars) := rfl
theorem c_X7_sights_157 : xlk calX7_sights 157 = some (false, 3, pX7_intAt, fX7_intAt) := rfl
theorem c_X7_sights_287 : xlk calX7_sights 287 = some (false, 2, pX7_isBeats, fX7_isBeats) := rfl
theorem c_X7_sights_167 : xlk calX7_sights 167 = some (false, 2, pX7_isPlace, fX7_isPlace) := rfl
theorem c_X7_sights_161 : xlk calX7_sights 161 = some (false, 2, pX7_isGait, fX7_isGait) := rfl
set_option maxHeartbeats 4000000 in
set_option maxRecDepth 100000 in
theorem mX7_sights : xMet WM yX7_sights cX7_sights 6 (some .int) 4 pX7_sights fX7_sights := by
  refine xMet_of (fld := xlk fldX7) (cal := xlk calX7_sights) (ks := xlk []) (gs := xlk []) (ro := fun _ => none) 0 (by decide) WM_nd rfl fldX7_ok xKs_nil xGs_nil (Or.inr rfl) (xcal_cons (xCk_V mX7_bars 7 (by decide) (by decide) (by decide) rfl (fun as σ h _ => rX7_bars as σ h) w_X7_153 ⟨by decide, by decide, by decide +kernel⟩) (xcal_cons (xCk_V mX7_intAt 7 (by decide) (by decide) (by decide) rfl (fun as σ h _ => rX7_intAt as σ h) w_X7_157 ⟨by decide, by decide, by decide +kernel⟩) (xcal_cons (xCk_V mX7_isBeats 7 (by decide) (by decide) (by decide) rfl (fun as σ h _ => rX7_isBeats as σ h) w_X7_287 ⟨by decide, by decide, by decide +kernel⟩) (xcal_cons (xCk_V mX7_isPlace 7 (by decide) (by decide) (by decide) rfl (fun as σ h _ => rX7_isPlace as σ h) w_X7_167 ⟨by decide, by decide, by decide +kernel⟩) (xcal_cons (xCk_V mX7_isGait 7 (by decide) (by decide) (by decide) rfl (fun as σ h _ => rX7_isGait as σ h) w_X7_161 ⟨by decide, by decide, by decide +kernel⟩) xcal_nil))))) ?_ ?_
  · rintro av σ ⟨s, n, rfl, hpre⟩
    exact Nat.le_of_ble_eq_true rfl
  rintro av σ ⟨s, n, rfl, hp1⟩ Rt hR
  have h26 : (brM σ s n 3 = 0 ∧ ¬ 10 < n) → xGo WM 6 (xlk fldX7) (xlk calX7_sights) (xlk []) (xlk []) (fun _ => none) 0 cX7_sights Rt 26 [some (.ref 0), some (.int s), some (.int n), none, some (.int (nI 0)), none] [] σ := fun hg => by
    obtain ⟨hb, hn⟩ := hg
    have g0 : sitM σ s n = if xany (siB σ s) (tn n) = true then -6 else 0 := by rw [sitM, if_neg (fun q => q hb), if_neg hn]
    simp only [fX7_sights_e, g0] at hR
    have hs := (wt_s (br_s hb)).1
    have hn10 := sn10 (Int32.not_lt.mp hn)
    have ib := fun j (hj : j ≤ 10) => ix3b hs (i := j) hj
    clear g0 hb hn
    have h1 : ∀ i, i ≤ tn n → (∀ j, j < i → siB σ s j = false) → xGo WM 6 (xlk fldX7) (xlk calX7_sights) (xlk []) (xlk []) (fun _ => none) 0 cX7_sights Rt 26 [some (.ref 0), some (.int s), some (.int n), none, some (.int (nI i)), none] [] (σ) := by
      refine xcount (tn n) (fun i => (∀ j, j < i → siB σ s j = false) → xGo WM 6 (xlk fldX7) (xlk calX7_sights) (xlk []) (xlk []) (fun _ => none) 0 cX7_sights Rt 26 [some (.ref 0), some (.int s), some (.int n), none, some (.int (nI i)), none] [] (σ)) (fun i hi ih hH => ?_)
      have hc := le_nI_tn (i := i) (x := n) hi
      have e1 : nI i + 1 = nI (i + 1) := nI_1 i
      obtain ⟨⟨w1, w2⟩, ⟨w3, w4⟩, w5, w6⟩ := ib i (by omega)
      refine xtoCs [(26, xPc (i < tn n ∧ (∀ j, j < (i + 1) → siB σ s j = false)) [some (.ref 0), some (.int s), some (.int n), none, some (.int (nI (i + 1))), none] (σ))] (xcs_cons (fun q => ih q.1 q.2) xcs_nil) 44 (fun cf hcf => ?_)
      have k26 : cf 26 = some (xPc (i < tn n ∧ (∀ j, j < (i + 1) → siB σ s j = false)) [some (.ref 0), some (.int s), some (.int n), none, some (.int (nI (i + 1))), none] (σ)) := (hcf 26).trans rfl
      have kn : ∀ pc, ¬ pc = 26 → cf pc = none := fun pc h0 => by rw [hcf, xlk_c, if_neg h0, xlk_n]
      clear hcf
      simp (config := {maxSteps := 4000000, implicitDefEqProofs := false}) only [xwp_2, xwp_0, xwp_1, xws_s, xdd_o, xld_0, xld_s, xs1_0, xs1_1, xs1_s, xs2_0, xs2_1, xs2_s, xlg_n, xlg_i, xlg_r, xlg_z, xlg_l, xf4_0, xf4_1, xf4_2, xf4_3, xgo_e, xcmp_eq, xcmp_ne, xcmp_lt, xcmp_ge, xcmp_gt, xcmp_le, xfg_0, xfg_1, xfg_2, xfg_3, xfg_4, xpop_0, xpop_s, xsw_n, xsw_c, xtb_n, xtb_c, xenp_n, xenp_i, xenp_r, xenp_z, xenp_l, xrep_0, xrep_s, Nat.reduceSub, true_and, and_true, cat_i, cat_r, Nat.reduceAdd, Nat.reduceLT, Nat.reduceLeDiff, Nat.reduceEqDiff, xnc, Int.reduceAdd, Int.reduceSub, Int.reduceNeg, Int.reduceLE, Int.reduceLT, Int.reduceToNat, ↓reduceIte, List.length_cons, List.length_nil, xlc0, xlc1, ite_10, i10, i01, i0_2, i0_3, i0_4, i0_6, i0_7, i0_8, i0_49, i0_10, or_true, true_or, or_false, false_or, not_false_eq_true, not_true_eq_false, xnt, xI_g, eq_self, xI_2, xJ_1, false_and, and_false, obM_t, rMi, vp_tn, tn_def, lgc, nI8, nI6, nI160, nI20, nI401, nI49, aM_6, aM_7, aM_8, aM_9, aM_10, aM_11, aM_12, aM_13, aM_14, aM_15, aM_16, aM_17, aM_18, aM_19, aM_20, aM_21, aM_22, aM_23, aM_24, aM_25, aM_26, aM_27, aM_28, aM_29, aM_30, aM_31, aM_38, aM_39, aM_40, aM_41, aM_42, aM_43, aM_44, aM_45, aM_46, aM_47, lM_6, lM_7, lM_8, lM_9, lM_10, lM_11, lM_12, lM_13, lM_14, lM_15, lM_16, lM_17, lM_18, lM_19, lM_20, lM_21, lM_22, lM_23, lM_24, lM_25, lM_26, lM_27, lM_28, lM_29, lM_30, lM_31, lM_38, lM_39, lM_40, lM_41, lM_42, lM_43, lM_44, lM_45, lM_46, lM_47, dX7_sights_0, st_aload_n, dX7_sights_1, st_iload_n, dX7_sights_2, dX7_sights_3, st_iconst, dX7_sights_4, st_invokevirtual, dX7_sights_7, st_istore_n, dX7_sights_8, dX7_sights_9, st_ifCond, dX7_sights_12, dX7_sights_13, st_ireturn, dX7_sights_14, dX7_sights_15, st_bipush, dX7_sights_17, st_if_icmp, dX7_sights_20, dX7_sights_22, dX7_sights_23, dX7_sights_24, st_istore, dX7_sights_26, st_iload, dX7_sights_28, dX7_sights_29, dX7_sights_32, dX7_sights_33, dX7_sights_34, dX7_sights_35, dX7_sights_37, st_imul, dX7_sights_38, dX7_sights_41, dX7_sights_43, dX7_sights_44, dX7_sights_46, dX7_sights_49, dX7_sights_52, dX7_sights_53, dX7_sights_54, dX7_sights_55, dX7_sights_56, dX7_sights_58, dX7_sights_59, dX7_sights_60, st_iadd, dX7_sights_61, dX7_sights_64, dX7_sights_67, dX7_sights_70, dX7_sights_71, dX7_sights_72, dX7_sights_73, dX7_sights_74, dX7_sights_76, dX7_sights_77, dX7_sights_78, dX7_sights_79, dX7_sights_82, dX7_sights_85, dX7_sights_88, dX7_sights_90, dX7_sights_91, st_iinc, dX7_sights_94, st_goto, dX7_sights_97, dX7_sights_98, c_X7_sights_153, pX7_bars_e, fX7_bars_e, Option.toList_some, Option.toList_none, List.cons_append, List.nil_append, c_X7_sights_157, pX7_intAt_e, fX7_intAt_e, c_X7_sights_287, pX7_isBeats_e, fX7_isBeats_e, c_X7_sights_167, pX7_isPlace_e, fX7_isPlace_e, c_X7_sights_161, pX7_isGait_e, fX7_isGait_e, ofJ_3, ofI_10, ofI_m6, ofI_0, ofJ_1, ofJ_2, hp1, xwp_s, xcu_s, xcu_n, xPc_e, xsub_0, xsub_n, xsub_s, k26, kn, hc, e1, w1, w2, w3, w4, w5, w6]
      have fin : ¬ i < tn n → xany (siB σ s) (tn n) = false := fun h => xany_f (fun j hj => hH j (by omega))
      have stop : i < tn n → siB σ s i = true → xany (siB σ s) (tn n) = true := fun h1 h2 => xany_t h1 h2
      have cont : siB σ s i = false → (∀ j, j < i + 1 → siB σ s j = false) := fun h2 => xall_s hH h2
      have e5 : siB σ s i = decide (¬ (0 ≤ inM σ s (3 * nI i) ∧ inM σ s (3 * nI i) ≤ 400) ∨ ¬ (0 ≤ inM σ s (3 * nI i + 1) ∧ inM σ s (3 * nI i + 1) < 49) ∨ ¬ (0 ≤ inM σ s (3 * nI i + 2) ∧ inM σ s (3 * nI i + 2) < σ.1 0 0)) := rfl
      simp only [hR]
      clear hR hc ih w1 w2 w3 w4 w5 w6
      generalize xany (siB σ s) (tn n) = u at *
      generalize inM σ s (3 * nI i) = v1 at *
      generalize inM σ s (3 * nI i + 1) = v2 at *
      generalize inM σ s (3 * nI i + 2) = v3 at *
      grind (splits := 60)
    exact h1 0 (Nat.zero_le _) (fun j hj => by omega)
  refine xtoC [(26, xPc (brM σ s n 3 = 0 ∧ ¬ 10 < n) [some (.ref 0), some (.int s), some (.int n), none, some (.int (nI 0)), none] (σ))] (xcs_cons (h26) xcs_nil) 20 (fun cf hcf => ?_)
  have k26 : cf 26 = some (xPc (brM σ s n 3 = 0 ∧ ¬ 10 < n) [some (.ref 0), some (.int s), some (.int n), none, some (.int (nI 0)), none] (σ)) := (hcf 26).trans rfl
  have kn : ∀ pc, ¬ pc = 26 → cf pc = none := fun pc h0 => by rw [hcf, xlk_c, if_neg h0, xlk_n]
  clear hcf
  simp (config := {maxSteps := 4000000, implicitDefEqProofs := false}) only [xwp_2, xwp_0, xwp_1, xws_s, xdd_o, xld_0, xld_s, xs1_0, xs1_1, xs1_s, xs2_0, xs2_1, xs2_s, xlg_n, xlg_i, xlg_r, xlg_z, xlg_l, xf4_0, xf4_1, xf4_2, xf4_3, xgo_e, xcmp_eq, xcmp_ne, xcmp_lt, xcmp_ge, xcmp_gt, xcmp_le, xfg_0, xfg_1, xfg_2, xfg_3, xfg_4, xpop_0, xpop_s, xsw_n, xsw_c, xtb_n, xtb_c, xenp_n, xenp_i, xenp_r, xenp_z, xenp_l, xrep_0, xrep_s, Nat.reduceSub, true_and, and_true, cat_i, cat_r, Nat.reduceAdd, Nat.reduceLT, Nat.reduceLeDiff, Nat.reduceEqDiff, xnc, Int.reduceAdd, Int.reduceSub, Int.reduceNeg, Int.reduceLE, Int.reduceLT, Int.reduceToNat, ↓reduceIte, List.length_cons, List.length_nil, xlc0, xlc1, ite_10, i10, i01, i0_2, i0_3, i0_4, i0_6, i0_7, i0_8, i0_49, i0_10, or_true, true_or, or_false, false_or, not_false_eq_true, not_true_eq_false, xnt, xI_g, eq_self, xI_2, xJ_1, false_and, and_false, obM_t, rMi, vp_tn, tn_def, lgc, nI8, nI6, nI160, nI20, nI401, nI49, aM_6, aM_7, aM_8, aM_9, aM_10, aM_11, aM_12, aM_13, aM_14, aM_15, aM_16, aM_17, aM_18, aM_19, aM_20, aM_21, aM_22, aM_23, aM_24, aM_25, aM_26, aM_27, aM_28, aM_29, aM_30, aM_31, aM_38, aM_39, aM_40, aM_41, aM_42, aM_43, aM_44, aM_45, aM_46, aM_47, lM_6, lM_7, lM_8, lM_9, lM_10, lM_11, lM_12, lM_13, lM_14, lM_15, lM_16, lM_17, lM_18, lM_19, lM_20, lM_21, lM_22, lM_23, lM_24, lM_25, lM_26, lM_27, lM_28, lM_29, lM_30, lM_31, lM_38, lM_39, lM_40, lM_41, lM_42, lM_43, lM_44, lM_45, lM_46, lM_47, dX7_sights_0, st_aload_n, dX7_sights_1, st_iload_n, dX7_sights_2, dX7_sights_3, st_iconst, dX7_sights_4, st_invokevirtual, dX7_sights_7, st_istore_n, dX7_sights_8, dX7_sights_9, st_ifCond, dX7_sights_12, dX7_sights_13, st_ireturn, dX7_sights_14, dX7_sights_15, st_bipush, dX7_sights_17, st_if_icmp, dX7_sights_20, dX7_sights_22, dX7_sights_23, dX7_sights_24, st_istore, dX7_sights_26, st_iload, dX7_sights_28, dX7_sights_29, dX7_sights_32, dX7_sights_33, dX7_sights_34, dX7_sights_35, dX7_sights_37, st_imul, dX7_sights_38, dX7_sights_41, dX7_sights_43, dX7_sights_44, dX7_sights_46, dX7_sights_49, dX7_sights_52, dX7_sights_53, dX7_sights_54, dX7_sights_55, dX7_sights_56, dX7_sights_58, dX7_sights_59, dX7_sights_60, st_iadd, dX7_sights_61, dX7_sights_64, dX7_sights_67, dX7_sights_70, dX7_sights_71, dX7_sights_72, dX7_sights_73, dX7_sights_74, dX7_sights_76, dX7_sights_77, dX7_sights_78, dX7_sights_79, dX7_sights_82, dX7_sights_85, dX7_sights_88, dX7_sights_90, dX7_sights_91, st_iinc, dX7_sights_94, st_goto, dX7_sights_97, dX7_sights_98, c_X7_sights_153, pX7_bars_e, fX7_bars_e, Option.toList_some, Option.toList_none, List.cons_append, List.nil_append, c_X7_sights_157, pX7_intAt_e, fX7_intAt_e, c_X7_sights_287, pX7_isBeats_e, fX7_isBeats_e, c_X7_sights_167, pX7_isPlace_e, fX7_isPlace_e, c_X7_sights_161, pX7_isGait_e, fX7_isGait_e, ofJ_3, ofI_10, ofI_m6, ofI_0, ofJ_1, ofJ_2, hp1, xwp_s, xcu_s, xcu_n, xPc_e, xsub_0, xsub_n, xsub_s, k26, kn, nI_00]
  simp only [hR, fX7_sights_e, sitM]
  clear hR h26
  generalize brM σ s n 3 = u at *
  generalize xany (siB σ s) (tn n) = u2 at *
  grind (splits := 40)
theorem rX7_sights : ∀ as σ, pX7_sights as σ → ∃ K as', as = .ref K :: as' ∧ xob WM K 7 := by
  rintro as σ ⟨s, n, rfl, hpre⟩
  exact ⟨_, _, rfl, by first | exact hpre | exact hpre.1 | exact obT hpre | exact obT hpre.1 | exact obS hpre | exact obS hpre.1 | exact obM | exact ob6 | exact ob2 | exact ob0⟩
