theorem FR_tkW {σ : xS} {n : Nat} (hn : n ≤ 6) : FR σ (tkW 200 100 n σ) := ⟨fun a b q => tkW_o (by omega), fun a b _ _ _ => rfl⟩
theorem FR_i {σ τ : xS} {K f : Nat} {v : Int32} (h : FR σ τ) (h1 : 200 ≤ K) (h2 : K < 300) : FR σ (xI τ K f v) := FR_t h (FR_xI h1 h2)
theorem FR_hbS {σ : xS} {g b : Int32} (hn : tn (σ.1 100 2) ≤ 6) : FR σ (hbS σ g b) := by
  unfold hbS addW
  refine FR_i ?_ (by omega) (by omega)
  refine FR_i ?_ (by omega) (by omega)
  refine FR_i ?_ (by omega) (by omega)
  refine FR_i ?_ (by omega) (by omega)
  refine FR_i ?_ (by omega) (by omega)
  refine FR_i ?_ (by omega) (by omega)
  refine FR_i ?_ (by omega) (by omega)
  refine FR_i ?_ (by omega) (by omega)
  refine FR_t (FR_i (K := 200) FR_r (by omega) (by omega)) (FR_tkW hn)
theorem FR_hbT {σ : xS} {g b n : Int32} (h0 : 0 ≤ σ.1 100 2) (h6 : σ.1 100 2 < 6) : FR σ (hbT σ g b n) := by
  unfold hbT
  refine FR_t (FR_hbS (xwk6 (lt6_le6 h6))) (FR_gb ?_ _)
  rw [hbS_k]
  exact xwk6 (cnt_1 h0 h6 (Or.inr rfl)).2
/-- one place and way tried -/
def hr1 (i : Nat) (F : Int32 × Int32 × xS) (fr : Bool) (hb : Int32) (T : xS) : Int32 × Int32 × xS := if 0 < F.2.1 then (if fr = true then (if hb < F.2.1 then (nI i, hb, T) else (F.1, F.2.1, T)) else F) else F
def hrF (σ : xS) (g : Int32) : Nat → Int32 × Int32 × xS
  | 0 => (-1, 101, thX σ 0)
  | i + 1 => hr1 i (hrF σ g i) (fbX (hrF σ g i).2.2 100 (nI i / 4)) (hbV (hrF σ g i).2.2 g (nI i) (hrF σ g i).2.1) (hbT (hrF σ g i).2.2 g (nI i) (hrF σ g i).2.1)
theorem hrF_s {σ : xS} {g : Int32} {i : Nat} : hrF σ g (i + 1) = hr1 i (hrF σ g i) (fbX (hrF σ g i).2.2 100 (nI i / 4)) (hbV (hrF σ g i).2.2 g (nI i) (hrF σ g i).2.1) (hbT (hrF σ g i).2.2 g (nI i) (hrF σ g i).2.1) := rfl
theorem hrF_0 {σ : xS} {g : Int32} : hrF σ g 0 = (-1, 101, thX σ 0) := rfl
def hl1 (F : Int32 × Int32 × xS) (fr : Bool) (hb : Int32) (o : Option Value) : Option Value := if 0 < F.2.1 ∧ fr = true then some (.int hb) else o
def hrl (σ : xS) (g : Int32) : Nat → Option Value
  | 0 => none
  | i + 1 => hl1 (hrF σ g i) (fbX (hrF σ g i).2.2 100 (nI i / 4)) (hbV (hrF σ g i).2.2 g (nI i) (hrF σ g i).2.1) (hrl σ g i)
theorem hrl_s {σ : xS} {g : Int32} {i : Nat} : hrl σ g (i + 1) = hl1 (hrF σ g i) (fbX (hrF σ g i).2.2 100 (nI i / 4)) (hbV (hrF σ g i).2.2 g (nI i) (hrF σ g i).2.1) (hrl σ g i) := rfl
theorem hrl_0 {σ : xS} {g : Int32} : hrl σ g 0 = none := rfl
theorem hr1_st {i : Nat} {F : Int32 × Int32 × xS} {fr : Bool} {hb : Int32} {T : xS} (h : ¬ 0 < F.2.1) : hr1 i F fr hb T = F := by
  unfold hr1
  rw [if_neg h]
theorem hrF_st {σ : xS} {g : Int32} {i : Nat} (h : ¬ 0 < (hrF σ g i).2.1) : ∀ k, hrF σ g (i + k) = hrF σ g i
  | 0 => rfl
  | k + 1 => by
    have ih := hrF_st h k
    rw [← Nat.add_assoc, hrF_s, hr1_st]
    · exact ih
    · rw [ih]; exact h
theorem FR_hr1 {σ : xS} {i : Nat} {F : Int32 × Int32 × xS} {fr : Bool} {hb : Int32} {T : xS} (h : FR σ F.2.2) (hT : FR F.2.2 T) : FR σ (hr1 i F fr hb T).2.2 := by
  unfold hr1
  split
  · split
    · split
      · exact FR_t h hT
      · exact FR_t h hT
    · exact h
  · exact h
theorem FR_hr {σ : xS} {g : Int32} (h0 : 0 ≤ σ.1 100 2) (h6 : σ.1 100 2 < 6) (h8 : σ.1 100 1 ≤ 8) (i : Nat) : FR σ (hrF σ g i).2.2 := by
  induction i with
  | zero => exact FR_th (xwk6 (lt6_le6 h6)) (xwk8 h8) 0
  | succ i ih =>
    rw [hrF_s]
    have e : (hrF σ g i).2.2.1 100 2 = σ.1 100 2 := ih.1 100 2 (by omega)
    exact FR_hr1 ih (FR_hbT (by rw [e]; exact h0) (by rw [e]; exact h6))
def hrZ (x : Int32) (F : Int32 × Int32 × xS) : Int32 × xS := (if F.1 = -1 ∨ x = 0 then F.1 else F.2.1, F.2.2)
def hirX (σ : xS) (g x : Int32) : Int32 × xS := if ¬ (0 ≤ g ∧ g < σ.1 100 1) then noX σ (-11) else if ¬ (0 ≤ x ∧ x ≤ 1) then noX σ (-15) else if ¬ σ.1 100 2 < 6 then noX σ (-17) else if brX σ 100 g = true then (-1, σ) else hrZ x (hrF σ g 196)
def pX6_hire (as : List Value) (σ : xS) : Prop := ∃ (g : Int32) (x : Int32), as = [.ref 0, .int g, .int x] ∧ ((0 ≤ σ.1 100 2) ∧ (σ.1 100 2 ≤ 6) ∧ (σ.1 100 1 ≤ 8))
def fX6_hire (as : List Value) (σ : xS) : Option Value × xS := match as with
  | [.ref 0, .int g, .int x] => (some (.int (hirX σ g x).1), (hirX σ g x).2)
  | _ => (none, σ)
theorem pX6_hire_e {g : Int32} {x : Int32} {σ : xS} : pX6_hire [.ref 0, .int g, .int x] σ = ((0 ≤ σ.1 100 2) ∧ (σ.1 100 2 ≤ 6) ∧ (σ.1 100 1 ≤ 8)) := propext ⟨fun h => by obtain ⟨g, x, e, h⟩ := h; cases e; exact h, fun h => ⟨g, x, rfl, h⟩⟩
theorem fX6_hire_e {g : Int32} {x : Int32} {σ : xS} : fX6_hire [.ref 0, .int g, .int x] σ = (some (.int (hirX σ g x).1), (hirX σ g x).2) := rfl
def calX6_hire : List (Nat × xCall) := [(152, (false, 2, pX4_hasGait, fX4_hasGait)), (66, (false, 2, pX6_refuse, fX6_refuse)), (110, (true, 2, pX6_isUpTo, fX6_isUpTo)), (167, (false, 1, pX4_hasRoomForWalker, fX4_hasRoomForWalker)), (239, (false, 2, pX4_isBarred, fX4_isBarred)), (207, (false, 2, pX6_think, fX6_think)), (242, (false, 2, pX4_isFree, fX4_isFree)), (245, (false, 4, pX6_beatOfHire, fX6_beatOfHire))]
theorem c_X6_hire_152 : xlk calX6_hire 152 = some (false, 2, pX4_hasGait, fX4_hasGait) := rfl
theorem c_X6_hire_66 : xlk calX6_hire 66 = some (false, 2, pX6_refuse, fX6_refuse) := rfl
theorem c_X6_hire_110 : xlk calX6_hire 110 = some (true, 2, pX6_isUpTo, fX6_isUpTo) := rfl
theorem c_X6_hire_167 : xlk calX6_hire 167 = some (false, 1, pX4_hasRoomForWalker, fX4_hasRoomForWalker) := rfl
theorem c_X6_hire_239 : xlk calX6_hire 239 = some (false, 2, pX4_isBarred, fX4_isBarred) := rfl
theorem c_X6_hire_207 : xlk calX6_hire 207 = some (false, 2, pX6_think, fX6_think) := rfl
theorem c_X6_hire_242 : xlk calX6_hire 242 = some (false, 2, pX4_isFree, fX4_isFree) := rfl
theorem c_X6_hire_245 : xlk calX6_hire 245 = some (false, 4, pX6_beatOfHire, fX6_beatOfHire) := rfl
set_option maxHeartbeats 4000000 in
set_option maxRecDepth 100000 in
theorem mX6_hire : xMet WX yX6_hire cX6_hire 7 (some .int) 8 pX6_hire fX6_hire := by
  refine xMet_of (fld := xlk fldX6) (cal := xlk calX6_hire) (ks := xlk []) (gs := xlk []) (ro := fun _ => none) 0 (by decide) WX_nd rfl fldX6_ok xKs_nil xGs_nil (Or.inr rfl) (xcal_cons (xCk_V mX4_hasGait 4 (by decide) (by decide) (by decide) rfl (fun as σ h _ => rX4_hasGait as σ h) w_X6_152 ⟨by decide, by decide, by decide +kernel⟩) (xcal_cons (xCk_V mX6_refuse 6 (by decide) (by decide) (by decide) rfl (fun as σ h _ => rX6_refuse as σ h) w_X6_66 ⟨by decide, by decide, by decide +kernel⟩) (xcal_cons (xCk_S mX6_isUpTo (by decide) (by decide) w_X6_110 ⟨by decide, by decide, by decide +kernel⟩) (xcal_cons (xCk_V mX4_hasRoomForWalker 4 (by decide) (by decide) (by decide) rfl (fun as σ h _ => rX4_hasRoomForWalker as σ h) w_X6_167 ⟨by decide, by decide, by decide +kernel⟩) (xcal_cons (xCk_V mX4_isBarred 4 (by decide) (by decide) (by decide) rfl (fun as σ h _ => rX4_isBarred as σ h) w_X6_239 ⟨by decide, by decide, by decide +kernel⟩) (xcal_cons (xCk_V mX6_think 6 (by decide) (by decide) (by decide) rfl (fun as σ h _ => rX6_think as σ h) w_X6_207 ⟨by decide, by decide, by decide +kernel⟩) (xcal_cons (xCk_V mX4_isFree 4 (by decide) (by decide) (by decide) rfl (fun as σ h _ => rX4_isFree as σ h) w_X6_242 ⟨by decide, by decide, by decide +kernel⟩) (xcal_cons (xCk_V mX6_beatOfHire 6 (by decide) (by decide) (by decide) rfl (fun as σ h _ => rX6_beatOfHire as σ h) w_X6_245 ⟨by decide, by decide, by decide +kernel⟩) xcal_nil)))))))) ?_ ?_
  · rintro av σ ⟨g, x, rfl, hpre⟩
    exact Nat.le_of_ble_eq_true rfl
  rintro av σ ⟨g, x, rfl, ⟨hp1, hp2, hp3⟩⟩ Rt hR
  have hR2 := hR2_g (Rt := Rt) (F := hirX σ g x) (fun r s' => by rw [hR, fX6_hire_e])
  clear hR
  refine xto 78 (fun L st t => ((0 ≤ g ∧ g < σ.1 100 1) ∧ (0 ≤ x ∧ x ≤ 1) ∧ σ.1 100 2 < 6 ∧ ¬ brX σ 100 g = true) ∧ L = [some (.ref 0), some (.int g), some (.int x), some (.int (hrF σ g 0).1), some (.int (hrF σ g 0).2.1), some (.int (nI 0)), hrl σ g 0] ∧ st = [] ∧ t = (hrF σ g 0).2.2) 60 ?_ ?_
  · rintro L st t ⟨⟨g1, g2, g3, g4⟩, eL, est, et⟩
    rw [eL, est, et]
    have g0 : hirX σ g x = hrZ x (hrF σ g 196) := by rw [hirX, if_neg (fun q => q g1), if_neg (fun q => q g2), if_neg (fun q => q g3), if_neg g4]
    rw [g0] at hR2
    obtain ⟨N, hN⟩ : ∃ N, N = 196 := ⟨_, rfl⟩
    rw [← hN] at hR2
    clear g0
    refine xfor 78 N 90 (fun i => [some (.ref 0), some (.int g), some (.int x), some (.int (hrF σ g i).1), some (.int (hrF σ g i).2.1), some (.int (nI i)), hrl σ g i]) (fun i => (hrF σ g i).2.2) (fun _ => True) (fun i hi _ => ?_) 0 (Nat.zero_le _) trivial
    have hc : (196 : Int32) ≤ nI i ↔ 196 ≤ i := nI_leI (a := 196) (by omega) (by omega)
    have e1 : nI i + 1 = nI (i + 1) := nI_1 i
    have hF := FR_hr hp1 g3 hp3 i (g := g)
    have z2 : (hrF σ g i).2.2.1 100 2 = σ.1 100 2 := hF.1 100 2 (by omega)
    have hk6 := lt6_le6 g3
    have sp : 0 < (hrF σ g i).2.1 → 0 ≤ (hrF σ g i).2.1 := Int32.le_of_lt
    have fin : 196 ≤ i → hrF σ g N = hrF σ g i := fun h => by rw [show N = i by omega]
    have stop : ¬ 0 < (hrF σ g i).2.1 → hrF σ g N = hrF σ g i := fun h => by
      have := hrF_st h (N - i)
      rw [show i + (N - i) = N by omega] at this
      exact this
    have sq : 0 < (hrF σ g i).2.1 → (0 ≤ (hrF σ g i).2.1) = True := fun h => eq_true (sp h)
    simp -implicitDefEqProofs only [xwp_2, xwp_0, xwp_1, xws_s, xdd_o, xld_0, xld_s, xs1_0, xs1_1, xs1_s, xs2_0, xs2_1, xs2_s, xlg_n, xlg_i, xlg_r, xlg_z, xlg_l, xf4_0, xf4_1, xf4_2, xf4_3, xgo_e, xcmp_eq, xcmp_ne, xcmp_lt, xcmp_ge, xcmp_gt, xcmp_le, xfg_0, xfg_1, xfg_2, xfg_3, xfg_4, xpop_0, xpop_s, xsw_n, xsw_c, xtb_n, xtb_c, xenp_n, xenp_i, xenp_r, xenp_z, xenp_l, xrep_0, xrep_s, Nat.reduceSub, true_and, and_true, cat_i, cat_r, Nat.reduceAdd, Nat.reduceLT, Nat.reduceLeDiff, Nat.reduceEqDiff, xnc, Int.reduceAdd, Int.reduceSub, Int.reduceNeg, Int.reduceLE, Int.reduceLT, Int.reduceToNat, ↓reduceIte, List.length_cons, List.length_nil, xlc0, xlc1, ite_10, i10, i01, i0_2, i0_3, i0_4, i0_6, i0_7, i0_8, i0_49, i0_10, or_true, true_or, or_false, false_or, not_false_eq_true, not_true_eq_false, xnt, xI_g, eq_self, xI_2, xJ_1, false_and, and_false, obT_t, obS_t, ob6_t, ob2_t, ob0_t, kT1_t, kT2_t, kT3_t, kT4_t, lT1, lT2, rT6, rT7, rT8, rT9, rT1i, rT2i, rS2, kSe_t, lSe, r0_0, r0_1, r0_2, r0_3, r0_4, r0_5, r0_6, r0_7, r0_8, r0_9, r1_i, r2_4, r2_5, r4_4, a1_t, a3_t, a5_t, a6_t, a7_t, a8_t, l1, l3, l5, l6, l7, l8, T1, T2, T3, T4, nI8, nI6, nI160, nI20, nI401, nI49, ob5_t, ob1_t, vp_tn, tn_def, lgc, dX6_hire_0, st_aload_n, dX6_hire_1, st_getfield, fl_X6_18, dX6_hire_4, st_iload_n, dX6_hire_5, st_invokevirtual, dX6_hire_8, st_ifCond, dX6_hire_11, dX6_hire_12, st_bipush, dX6_hire_14, dX6_hire_17, st_ireturn, dX6_hire_18, dX6_hire_19, st_iconst, dX6_hire_20, st_invokestatic, dX6_hire_23, dX6_hire_26, dX6_hire_27, dX6_hire_29, dX6_hire_32, dX6_hire_33, dX6_hire_34, dX6_hire_37, dX6_hire_40, dX6_hire_43, dX6_hire_44, dX6_hire_46, dX6_hire_49, dX6_hire_50, dX6_hire_51, dX6_hire_54, dX6_hire_55, dX6_hire_58, dX6_hire_61, dX6_hire_62, dX6_hire_63, dX6_hire_64, dX6_hire_65, dX6_hire_68, st_pop, dX6_hire_69, dX6_hire_70, st_istore_n, dX6_hire_71, dX6_hire_73, st_istore, dX6_hire_75, dX6_hire_76, dX6_hire_78, st_iload, dX6_hire_80, st_sipush, dX6_hire_83, st_if_icmp, dX6_hire_86, dX6_hire_88, dX6_hire_91, dX6_hire_92, dX6_hire_95, dX6_hire_97, dX6_hire_98, st_idiv, dX6_hire_99, dX6_hire_102, dX6_hire_105, dX6_hire_106, dX6_hire_107, dX6_hire_109, dX6_hire_111, dX6_hire_114, dX6_hire_116, dX6_hire_118, dX6_hire_120, dX6_hire_123, dX6_hire_125, dX6_hire_127, dX6_hire_129, dX6_hire_130, st_iinc, dX6_hire_133, st_goto, dX6_hire_136, dX6_hire_137, dX6_hire_138, dX6_hire_141, dX6_hire_142, dX6_hire_145, dX6_hire_146, dX6_hire_149, dX6_hire_151, c_X6_hire_152, pX4_hasGait_e, fX4_hasGait_e, Option.toList_some, Option.toList_none, List.cons_append, List.nil_append, c_X6_hire_66, pX6_refuse_e, fX6_refuse_e, c_X6_hire_110, pX6_isUpTo_e, fX6_isUpTo_e, c_X6_hire_167, pX4_hasRoomForWalker_e, fX4_hasRoomForWalker_e, c_X6_hire_239, pX4_isBarred_e, fX4_isBarred_n, c_X6_hire_207, pX6_think_e, fX6_think_e, c_X6_hire_242, pX4_isFree_e, fX4_isFree_n, c_X6_hire_245, pX6_beatOfHire_e, fX6_beatOfHire_e, ofI_m11, ofJ_1, ofI_m15, ofI_m17, ofI_m1, ofI_0, ofI_101, ofI_196, ofI_4, i4_0, hp1, hp2, hp3, hc, e1, z2, g3, hk6]
    rw [hrF_s, hrl_s]
    simp only [hR2]
    clear hR2 hc e1 hp1 hp2 hp3 hF z2 g1 g2 g3 g4
    generalize hrF σ g N = FN at *
    generalize hrl σ g i = ol at *
    generalize hbV (hrF σ g i).2.2 g (nI i) (hrF σ g i).2.1 = hv at *
    generalize hbT (hrF σ g i).2.2 g (nI i) (hrF σ g i).2.1 = hT at *
    generalize fbX (hrF σ g i).2.2 100 (nI i / 4) = fr at *
    generalize hrF σ g i = F at *
    obtain ⟨b0, s0, t0⟩ := F
    simp only at *
    unfold hr1 hl1 hrZ
    have hNi : ¬ 196 ≤ i → i < N := fun h => by omega
    grind (splits := 60)
  · simp -implicitDefEqProofs only [xwp_2, xwp_0, xwp_1, xws_s, xdd_o, xld_0, xld_s, xs1_0, xs1_1, xs1_s, xs2_0, xs2_1, xs2_s, xlg_n, xlg_i, xlg_r, xlg_z, xlg_l, xf4_0, xf4_1, xf4_2, xf4_3, xgo_e, xcmp_eq, xcmp_ne, xcmp_lt, xcmp_ge, xcmp_gt, xcmp_le, xfg_0, xfg_1, xfg_2, xfg_3, xfg_4, xpop_0, xpop_s, xsw_n, xsw_c, xtb_n, xtb_c, xenp_n, xenp_i, xenp_r, xenp_z, xenp_l, xrep_0, xrep_s, Nat.reduceSub, true_and, and_true, cat_i, cat_r, Nat.reduceAdd, Nat.reduceLT, Nat.reduceLeDiff, Nat.reduceEqDiff, xnc, Int.reduceAdd, Int.reduceSub, Int.reduceNeg, Int.reduceLE, Int.reduceLT, Int.reduceToNat, ↓reduceIte, List.length_cons, List.length_nil, xlc0, xlc1, ite_10, i10, i01, i0_2, i0_3, i0_4, i0_6, i0_7, i0_8, i0_49, i0_10, or_true, true_or, or_false, false_or, not_false_eq_true, not_true_eq_false, xnt, xI_g, eq_self, xI_2, xJ_1, false_and, and_false, obT_t, obS_t, ob6_t, ob2_t, ob0_t, kT1_t, kT2_t, kT3_t, kT4_t, lT1, lT2, rT6, rT7, rT8, rT9, rT1i, rT2i, rS2, kSe_t, lSe, r0_0, r0_1, r0_2, r0_3, r0_4, r0_5, r0_6, r0_7, r0_8, r0_9, r1_i, r2_4, r2_5, r4_4, a1_t, a3_t, a5_t, a6_t, a7_t, a8_t, l1, l3, l5, l6, l7, l8, T1, T2, T3, T4, nI8, nI6, nI160, nI20, nI401, nI49, ob5_t, ob1_t, vp_tn, tn_def, lgc, dX6_hire_0, st_aload_n, dX6_hire_1, st_getfield, fl_X6_18, dX6_hire_4, st_iload_n, dX6_hire_5, st_invokevirtual, dX6_hire_8, st_ifCond, dX6_hire_11, dX6_hire_12, st_bipush, dX6_hire_14, dX6_hire_17, st_ireturn, dX6_hire_18, dX6_hire_19, st_iconst, dX6_hire_20, st_invokestatic, dX6_hire_23, dX6_hire_26, dX6_hire_27, dX6_hire_29, dX6_hire_32, dX6_hire_33, dX6_hire_34, dX6_hire_37, dX6_hire_40, dX6_hire_43, dX6_hire_44, dX6_hire_46, dX6_hire_49, dX6_hire_50, dX6_hire_51, dX6_hire_54, dX6_hire_55, dX6_hire_58, dX6_hire_61, dX6_hire_62, dX6_hire_63, dX6_hire_64, dX6_hire_65, dX6_hire_68, st_pop, dX6_hire_69, dX6_hire_70, st_istore_n, dX6_hire_71, dX6_hire_73, st_istore, dX6_hire_75, dX6_hire_76, dX6_hire_78, st_iload, dX6_hire_80, st_sipush, dX6_hire_83, st_if_icmp, dX6_hire_86, dX6_hire_88, dX6_hire_91, dX6_hire_92, dX6_hire_95, dX6_hire_97, dX6_hire_98, st_idiv, dX6_hire_99, dX6_hire_102, dX6_hire_105, dX6_hire_106, dX6_hire_107, dX6_hire_109, dX6_hire_111, dX6_hire_114, dX6_hire_116, dX6_hire_118, dX6_hire_120, dX6_hire_123, dX6_hire_125, dX6_hire_127, dX6_hire_129, dX6_hire_130, st_iinc, dX6_hire_133, st_goto, dX6_hire_136, dX6_hire_137, dX6_hire_138, dX6_hire_141, dX6_hire_142, dX6_hire_145, dX6_hire_146, dX6_hire_149, dX6_hire_151, c_X6_hire_152, pX4_hasGait_e, fX4_hasGait_e, Option.toList_some, Option.toList_none, List.cons_append, List.nil_append, c_X6_hire_66, pX6_refuse_e, fX6_refuse_e, c_X6_hire_110, pX6_isUpTo_e, fX6_isUpTo_e, c_X6_hire_167, pX4_hasRoomForWalker_e, fX4_hasRoomForWalker_e, c_X6_hire_239, pX4_isBarred_e, fX4_isBarred_n, c_X6_hire_207, pX6_think_e, fX6_think_e, c_X6_hire_242, pX4_isFree_e, fX4_isFree_n, c_X6_hire_245, pX6_beatOfHire_e, fX6_beatOfHire_e, ofI_m11, ofJ_1, ofI_m15, ofI_m17, ofI_m1, ofI_0, ofI_101, ofI_196, ofI_4, i4_0, hp1, hp2, hp3, hrF_0, hrl_0, nI_00]
    simp only [hR2, hirX, noX]
    clear hR2
    grind (splits := 60)
theorem rX6_hire : ∀ as σ, pX6_hire as σ → ∃ K as', as = .ref K :: as' ∧ xob WX K 6 := by
  rintro as σ ⟨g, x, rfl, hpre⟩
  exact ⟨_, _, rfl, by first | exact hpre | exact hpre.1 | exact obT hpre | exact obT hpre.1 | exact obS hpre | exact obS hpre.1 | exact obM | exact ob6 | exact ob2 | exact ob0⟩
/-- a beginning with another gait -/
def bgoX (σ : xS) (B : Nat) (x g : Int32) : xS := xI (xI σ (whoK B x) 3 g) (whoK B x) 4 (if 0 < σ.1 (gaiK B g) 0 then xrem (σ.1 (whoK B x) 4) (σ.1 (gaiK B g) 0) else 0)
theorem fX4_beginOtherwise_n {B : Nat} {x g : Int32} {σ : xS} : fX4_beginOtherwise [.ref B, .int x, .int g] σ = (none, bgoX σ B x g) := rfl
theorem whoK_r {x : Int32} : 200 ≤ whoK 200 x ∧ whoK 200 x < 300 := by
  unfold whoK
  split
  · rename_i h
    have h1 : x.toInt < 6 := by simpa using Int32.lt_iff_toInt_lt.mp h.2
    have h2 : tn x < 6 := by
      show x.toInt.toNat < 6
      omega
    omega
  · omega
theorem FR_bgo {σ : xS} {x g : Int32} : FR σ (bgoX σ 200 x g) := FR_t (FR_xI whoK_r.1 whoK_r.2) (FR_xI whoK_r.1 whoK_r.2)
theorem bgoX_k {σ : xS} {x g : Int32} : (bgoX σ 200 x g).1 200 2 = σ.1 200 2 := by
  unfold bgoX
  rw [xI_n (fun q => by omega), xI_n (fun q => by omega)]
def bwT (σ : xS) (K : Nat) (n x : Int32) (i : Nat) : xS := bgoX (thX σ 0) 200 x (nI i)
def bw1 (n : Int32) (i : Nat) (F : Int32 × xS) (v : Int32) (T : xS) : Int32 × xS := (if v = n then F.1 ||| xshl 1 (nI i) else F.1, T)
def bwF (σ : xS) (K : Nat) (n x : Int32) : Nat → Int32 × xS
  | 0 => (0, σ)
  | i + 1 => bw1 n i (bwF σ K n x i) (snV (bwT (bwF σ K n x i).2 K n x i) K n) (snS (bwT (bwF σ K n x i).2 K n x i) K n)
theorem bwF_s {σ : xS} {K : Nat} {n x : Int32} {i : Nat} : bwF σ K n x (i + 1) = bw1 n i (bwF σ K n x i) (snV (bwT (bwF σ K n x i).2 K n x i) K n) (snS (bwT (bwF σ K n x i).2 K n x i) K n) := rfl
theorem bwF_0 {σ : xS} {K : Nat} {n x : Int32} : bwF σ K n x 0 = (0, σ) := rfl
theorem bwT_f {σ : xS} {K : Nat} {n x : Int32} {i : Nat} : bgoX (thX σ 0) 200 x (nI i) = bwT σ K n x i := rfl
theorem bwT_k {σ : xS} {K : Nat} {n x : Int32} {i : Nat} : (bwT σ K n x i).1 200 2 = σ.1 100 2 := by
  unfold bwT
  rw [bgoX_k, thX_k]
theorem FR_bwT {σ : xS} {K : Nat} {n x : Int32} {i : Nat} (hw : tn (σ.1 100 2) ≤ 6) (hg : tn (σ.1 100 1) ≤ 8) : FR σ (bwT σ K n x i) := FR_t (FR_th hw hg 0) FR_bgo
theorem FR_sn {σ : xS} {K : Nat} {n : Int32} (h : tn (σ.1 200 2) ≤ 6) : FR σ (snS σ K n) := by
  unfold snS
  exact FR_gb h _
theorem FR_bg {σ : xS} {K : Nat} {n x : Int32} (h6 : σ.1 100 2 ≤ 6) (h8 : σ.1 100 1 ≤ 8) (i : Nat) : FR σ (bwF σ K n x i).2 := by
  induction i with
  | zero => exact FR_r
  | succ i ih =>
    rw [bwF_s]
    have e2 : (bwF σ K n x i).2.1 100 2 = σ.1 100 2 := ih.1 100 2 (by omega)
    have e1 : (bwF σ K n x i).2.1 100 1 = σ.1 100 1 := ih.1 100 1 (by omega)
    refine FR_t ih (FR_t (FR_bwT (K := K) (n := n) (x := x) (i := i) (by rw [e2]; exact xwk6 h6) (by rw [e1]; exact xwk8 h8)) (FR_sn ?_))
    rw [bwT_k, e2]
    exact xwk6 h6
def begX (σ : xS) (s n x : Int32) : Int32 × xS := if (0 ≤ s ∧ s < 8) ∧ (0 ≤ x ∧ x < σ.1 100 2) then (if wnr σ (10 + tn s) = 0 then (if wns σ (10 + tn s) n = 0 then bwF σ (10 + tn s) n x (tn (σ.1 100 1)) else noX σ (wns σ (10 + tn s) n)) else noX σ (wnr σ (10 + tn s))) else noX σ (-1)
def pX6_began (as : List Value) (σ : xS) : Prop := ∃ (s : Int32) (n : Int32) (x : Int32), as = [.ref 0, .int s, .int n, .int x] ∧ ((0 ≤ σ.1 100 2) ∧ (σ.1 100 2 ≤ 6) ∧ (σ.1 100 1 ≤ 8))
def fX6_began (as : List Value) (σ : xS) : Option Value × xS := match as with
  | [.ref 0, .int s, .int n, .int x] => (some (.int (begX σ s n x).1), (begX σ s n x).2)
  | _ => (none, σ)
theorem pX6_began_e {s : Int32} {n : Int32} {x : Int32} {σ : xS} : pX6_began [.ref 0, .int s, .int n, .int x] σ = ((0 ≤ σ.1 100 2) ∧ (σ.1 100 2 ≤ 6) ∧ (σ.1 100 1 ≤ 8)) := propext ⟨fun h => by obtain ⟨s, n, x, e, h⟩ := h; cases e; exact h, fun h => ⟨s, n, x, rfl, h⟩⟩
theorem fX6_began_e {s : Int32} {n : Int32} {x : Int32} {σ : xS} : fX6_began [.ref 0, .int s, .int n, .int x] σ = (some (.int (begX σ s n x).1), (begX σ s n x).2) := rfl
def calX6_began : List (Nat × xCall) := [(62, (false, 2, pX6_shelfBy, fX6_shelfBy)), (104, (false, 2, pX4_hasWalker, fX4_hasWalker)), (66, (false, 2, pX6_refuse, fX6_refuse)), (74, (true, 1, pX6_whyNoRow, fX6_whyNoRow)), (248, (false, 3, pX6_whyNoSights, fX6_whyNoSights)), (207, (false, 2, pX6_think, fX6_think)), (258, (false, 3, pX4_beginOtherwise, fX4_beginOtherwise)), (252, (false, 3, pX6_seen, fX6_seen))]
theorem c_X6_began_62 : xlk calX6_began 62 = some (false, 2, pX6_shelfBy, fX6_shelfBy) := rfl
theorem c_X6_began_104 : xlk calX6_began 104 = some (false, 2, pX4_hasWalker, fX4_hasWalker) := rfl
theorem c_X6_began_66 : xlk calX6_began 66 = some (false, 2, pX6_refuse, fX6_refuse) := rfl
theorem c_X6_began_74 : xlk calX6_began 74 = some (true, 1, pX6_whyNoRow, fX6_whyNoRow) := rfl
theorem c_X6_began_248 : xlk calX6_began 248 = some (false, 3, pX6_whyNoSights, fX6_whyNoSights) := rfl
theorem c_X6_began_207 : xlk calX6_began 207 = some (false, 2, pX6_think, fX6_think) := rfl
theorem c_X6_began_258 : xlk calX6_began 258 = some (false, 3, pX4_beginOtherwise, fX4_beginOtherwise) := rfl
theorem c_X6_began_252 : xlk calX6_began 252 = some (false, 3, pX6_seen, fX6_seen) := rfl
set_option maxHeartbeats 4000000 in
set_option maxRecDepth 100000 in
theorem mX6_began : xMet WX yX6_began cX6_began 9 (some .int) 7 pX6_began fX6_began := by
  refine xMet_of (fld := xlk fldX6) (cal := xlk calX6_began) (ks := xlk []) (gs := xlk []) (ro := fun _ => none) 0 (by decide) WX_nd rfl fldX6_ok xKs_nil xGs_nil (Or.inr rfl) (xcal_cons (xCk_V mX6_shelfBy 6 (by decide) (by decide) (by decide) rfl (fun as σ h _ => rX6_shelfBy as σ h) w_X6_62 ⟨by decide, by decide, by decide +kernel⟩) (xcal_cons (xCk_V mX4_hasWalker 4 (by decide) (by decide) (by decide) rfl (fun as σ h _ => rX4_hasWalker as σ h) w_X6_104 ⟨by decide, by decide, by decide +kernel⟩) (xcal_cons (xCk_V mX6_refuse 6 (by decide) (by decide) (by decide) rfl (fun as σ h _ => rX6_refuse as σ h) w_X6_66 ⟨by decide, by decide, by decide +kernel⟩) (xcal_cons (xCk_S mX6_whyNoRow (by decide) (by decide) w_X6_74 ⟨by decide, by decide, by decide +kernel⟩) (xcal_cons (xCk_V mX6_whyNoSights 6 (by decide) (by decide) (by decide) rfl (fun as σ h _ => rX6_whyNoSights as σ h) w_X6_248 ⟨by decide, by decide, by decide +kernel⟩) (xcal_cons (xCk_V mX6_think 6 (by decide) (by decide) (by decide) rfl (fun as σ h _ => rX6_think as σ h) w_X6_207 ⟨by decide, by decide, by decide +kernel⟩) (xcal_cons (xCk_V mX4_beginOtherwise 4 (by decide) (by decide) (by decide) rfl (fun as σ h _ => rX4_beginOtherwise as σ h) w_X6_258 ⟨by decide, by decide, by decide +kernel⟩) (xcal_cons (xCk_V mX6_seen 6 (by decide) (by decide) (by decide) rfl (fun as σ h _ => rX6_seen as σ h) w_X6_252 ⟨by decide, by decide, by decide +kernel⟩) xcal_nil)))))))) ?_ ?_
  · rintro av σ ⟨s, n, x, rfl, hpre⟩
    exact Nat.le_of_ble_eq_true rfl
  rintro av σ ⟨s, n, x, rfl, ⟨hp1, hp2, hp3⟩⟩ Rt hR
  have hR2 := hR2_g (Rt := Rt) (F := begX σ s n x) (fun r s' => by rw [hR, fX6_began_e])
  by_cases h : 0 ≤ s ∧ s < 8
  · have hSs : xSh (10 + tn s) := sh8 h
    by_cases hw : wns σ (10 + tn s) n = 0
    · by_cases hx : 0 ≤ x ∧ x < σ.1 100 2
      · by_cases hr : wnr σ (10 + tn s) = 0
        · have q1 := (wns_0 hw).1.1
          have q2 := (wns_0 hw).1.2
          have g0 : begX σ s n x = bwF σ (10 + tn s) n x (tn (σ.1 100 1)) := by rw [begX, if_pos ⟨h, hx⟩, if_pos hr, if_pos hw]
          rw [g0] at hR2
          generalize hK : 10 + tn s = K at *
          clear hR g0
          refine xto 75 (fun L st t => L = [some (.ref 0), some (.int s), some (.int n), some (.int x), some (.ref K), some (.int 0), some (.int 0), some (.int (bwF σ K n x 0).1), some (.int (nI 0))] ∧ st = [] ∧ t = (bwF σ K n x 0).2) 60 ?_ ?_
          · rintro L st t ⟨eL, est, et⟩
            rw [eL, est, et]
            have hg8 := xwk8 hp3
            refine xfor 75 (tn (σ.1 100 1)) 90 (fun i => [some (.ref 0), some (.int s), some (.int n), some (.int x), some (.ref K), some (.int 0), some (.int 0), some (.int (bwF σ K n x i).1), some (.int (nI i))]) (fun i => (bwF σ K n x i).2) (fun _ => True) (fun i hi _ => ?_) 0 (Nat.zero_le _) trivial
            have hc := le_nI_tn (i := i) (x := σ.1 100 1) hi
            have e1 : nI i + 1 = nI (i + 1) := nI_1 i
            have hF := FR_bg (K := K) (n := n) (x := x) hp2 hp3 i
            have z1 : (bwF σ K n x i).2.1 100 1 = σ.1 100 1 := hF.1 100 1 (by omega)
            have z2 : (bwF σ K n x i).2.1 100 2 = σ.1 100 2 := hF.1 100 2 (by omega)
            have hF2 : FR σ (bwT (bwF σ K n x i).2 K n x i) := FR_t hF (FR_bwT (by rw [z2]; exact xwk6 hp2) (by rw [z1]; exact hg8))
            have q3 := sgOK_F hF2 hSs hw
            have z3 := bwT_k (σ := (bwF σ K n x i).2) (K := K) (n := n) (x := x) (i := i)
            rw [z2] at z3
            have z4 := bwT_f (σ := (bwF σ K n x i).2) (K := K) (n := n) (x := x) (i := i)
            have fin : i = tn (σ.1 100 1) → ((bwF σ K n x i).1, (bwF σ K n x i).2) = bwF σ K n x (tn (σ.1 100 1)) := fun h => by rw [← h]
            simp -implicitDefEqProofs only [xwp_2, xwp_0, xwp_1, xws_s, xdd_o, xld_0, xld_s, xs1_0, xs1_1, xs1_s, xs2_0, xs2_1, xs2_s, xlg_n, xlg_i, xlg_r, xlg_z, xlg_l, xf4_0, xf4_1, xf4_2, xf4_3, xgo_e, xcmp_eq, xcmp_ne, xcmp_lt, xcmp_ge, xcmp_gt, xcmp_le, xfg_0, xfg_1, xfg_2, xfg_3, xfg_4, xpop_0, xpop_s, xsw_n, xsw_c, xtb_n, xtb_c, xenp_n, xenp_i, xenp_r, xenp_z, xenp_l, xrep_0, xrep_s, Nat.reduceSub, true_and, and_true, cat_i, cat_r, Nat.reduceAdd, Nat.reduceLT, Nat.reduceLeDiff, Nat.reduceEqDiff, xnc, Int.reduceAdd, Int.reduceSub, Int.reduceNeg, Int.reduceLE, Int.reduceLT, Int.reduceToNat, ↓reduceIte, List.length_cons, List.length_nil, xlc0, xlc1, ite_10, i10, i01, i0_2, i0_3, i0_4, i0_6, i0_7, i0_8, i0_49, i0_10, or_true, true_or, or_false, false_or, not_false_eq_true, not_true_eq_false, xnt, xI_g, eq_self, xI_2, xJ_1, false_and, and_false, obT_t, obS_t, ob6_t, ob2_t, ob0_t, kT1_t, kT2_t, kT3_t, kT4_t, lT1, lT2, rT6, rT7, rT8, rT9, rT1i, rT2i, rS2, kSe_t, lSe, r0_0, r0_1, r0_2, r0_3, r0_4, r0_5, r0_6, r0_7, r0_8, r0_9, r1_i, r2_4, r2_5, r4_4, a1_t, a3_t, a5_t, a6_t, a7_t, a8_t, l1, l3, l5, l6, l7, l8, T1, T2, T3, T4, nI8, nI6, nI160, nI20, nI401, nI49, ob5_t, ob1_t, vp_tn, tn_def, lgc, dX6_began_0, st_aload_n, dX6_began_1, st_iload_n, dX6_began_2, st_invokevirtual, dX6_began_5, st_astore, dX6_began_7, st_aload, dX6_began_9, st_ifnull, dX6_began_12, dX6_began_13, st_getfield, fl_X6_18, dX6_began_16, dX6_began_17, dX6_began_20, st_ifCond, dX6_began_23, dX6_began_24, st_iconst, dX6_began_25, dX6_began_28, st_ireturn, dX6_began_29, dX6_began_31, st_invokestatic, dX6_began_34, st_istore, dX6_began_36, st_iload, dX6_began_38, dX6_began_41, dX6_began_42, dX6_began_44, dX6_began_47, dX6_began_48, dX6_began_49, dX6_began_51, dX6_began_52, dX6_began_55, dX6_began_57, dX6_began_59, dX6_began_62, dX6_began_63, dX6_began_65, dX6_began_68, dX6_began_69, dX6_began_70, dX6_began_72, dX6_began_73, dX6_began_75, dX6_began_77, dX6_began_78, dX6_began_81, fl_X6_255, dX6_began_84, st_if_icmp, dX6_began_87, dX6_began_88, dX6_began_89, dX6_began_92, st_pop, dX6_began_93, dX6_began_94, fl_X6_22, dX6_began_97, dX6_began_98, dX6_began_100, dX6_began_103, dX6_began_104, dX6_began_106, dX6_began_107, dX6_began_110, dX6_began_111, dX6_began_114, dX6_began_116, dX6_began_117, dX6_began_119, st_ishl, dX6_began_120, st_ior, dX6_began_121, dX6_began_123, st_iinc, dX6_began_126, st_goto, dX6_began_129, dX6_began_131, c_X6_began_62, pX6_shelfBy_e, fX6_shelfBy_e, Option.toList_some, Option.toList_none, List.cons_append, List.nil_append, c_X6_began_104, pX4_hasWalker_e, fX4_hasWalker_e, c_X6_began_66, pX6_refuse_e, fX6_refuse_e, c_X6_began_74, pwnr_r, fwnr_r, c_X6_began_248, pX6_whyNoSights_e, fX6_whyNoSights_e, c_X6_began_207, pX6_think_e, fX6_think_e, c_X6_began_258, pX4_beginOtherwise_e, fX4_beginOtherwise_n, c_X6_began_252, pX6_seen_n, fX6_seen_e, ofI_m1, ofI_0, ofJ_1, hp1, hp2, hp3, hSs, hc, e1, z1, z2, z3, z4, q1, q2, q3]
            rw [bwF_s]
            simp only [hR2]
            clear hR2 hc e1 hp1 hp2 hp3 hF hF2 z1 z2 z3 z4 q3 q1 q2
            generalize bwT (bwF σ K n x i).2 K n x i = T0 at *
            generalize snV T0 K n = v0 at *
            generalize snS T0 K n = T1 at *
            generalize bwF σ K n x i = F at *
            unfold bw1
            grind (splits := 40)
          · simp -implicitDefEqProofs only [xwp_2, xwp_0, xwp_1, xws_s, xdd_o, xld_0, xld_s, xs1_0, xs1_1, xs1_s, xs2_0, xs2_1, xs2_s, xlg_n, xlg_i, xlg_r, xlg_z, xlg_l, xf4_0, xf4_1, xf4_2, xf4_3, xgo_e, xcmp_eq, xcmp_ne, xcmp_lt, xcmp_ge, xcmp_gt, xcmp_le, xfg_0, xfg_1, xfg_2, xfg_3, xfg_4, xpop_0, xpop_s, xsw_n, xsw_c, xtb_n, xtb_c, xenp_n, xenp_i, xenp_r, xenp_z, xenp_l, xrep_0, xrep_s, Nat.reduceSub, true_and, and_true, cat_i, cat_r, Nat.reduceAdd, Nat.reduceLT, Nat.reduceLeDiff, Nat.reduceEqDiff, xnc, Int.reduceAdd, Int.reduceSub, Int.reduceNeg, Int.reduceLE, Int.reduceLT, Int.reduceToNat, ↓reduceIte, List.length_cons, List.length_nil, xlc0, xlc1, ite_10, i10, i01, i0_2, i0_3, i0_4, i0_6, i0_7, i0_8, i0_49, i0_10, or_true, true_or, or_false, false_or, not_false_eq_true, not_true_eq_false, xnt, xI_g, eq_self, xI_2, xJ_1, false_and, and_false, obT_t, obS_t, ob6_t, ob2_t, ob0_t, kT1_t, kT2_t, kT3_t, kT4_t, lT1, lT2, rT6, rT7, rT8, rT9, rT1i, rT2i, rS2, kSe_t, lSe, r0_0, r0_1, r0_2, r0_3, r0_4, r0_5, r0_6, r0_7, r0_8, r0_9, r1_i, r2_4, r2_5, r4_4, a1_t, a3_t, a5_t, a6_t, a7_t, a8_t, l1, l3, l5, l6, l7, l8, T1, T2, T3, T4, nI8, nI6, nI160, nI20, nI401, nI49, ob5_t, ob1_t, vp_tn, tn_def, lgc, dX6_began_0, st_aload_n, dX6_began_1, st_iload_n, dX6_began_2, st_invokevirtual, dX6_began_5, st_astore, dX6_began_7, st_aload, dX6_began_9, st_ifnull, dX6_began_12, dX6_began_13, st_getfield, fl_X6_18, dX6_began_16, dX6_began_17, dX6_began_20, st_ifCond, dX6_began_23, dX6_began_24, st_iconst, dX6_began_25, dX6_began_28, st_ireturn, dX6_began_29, dX6_began_31, st_invokestatic, dX6_began_34, st_istore, dX6_began_36, st_iload, dX6_began_38, dX6_began_41, dX6_began_42, dX6_began_44, dX6_began_47, dX6_began_48, dX6_began_49, dX6_began_51, dX6_began_52, dX6_began_55, dX6_began_57, dX6_began_59, dX6_began_62, dX6_began_63, dX6_began_65, dX6_began_68, dX6_began_69, dX6_began_70, dX6_began_72, dX6_began_73, dX6_began_75, dX6_began_77, dX6_began_78, dX6_began_81, fl_X6_255, dX6_began_84, st_if_icmp, dX6_began_87, dX6_began_88, dX6_began_89, dX6_began_92, st_pop, dX6_began_93, dX6_began_94, fl_X6_22, dX6_began_97, dX6_began_98, dX6_began_100, dX6_began_103, dX6_began_104, dX6_began_106, dX6_began_107, dX6_began_110, dX6_began_111, dX6_began_114, dX6_began_116, dX6_began_117, dX6_began_119, st_ishl, dX6_began_120, st_ior, dX6_began_121, dX6_began_123, st_iinc, dX6_began_126, st_goto, dX6_began_129, dX6_began_131, c_X6_began_62, pX6_shelfBy_e, fX6_shelfBy_e, Option.toList_some, Option.toList_none, List.cons_append, List.nil_append, c_X6_began_104, pX4_hasWalker_e, fX4_hasWalker_e, c_X6_began_66, pX6_refuse_e, fX6_refuse_e, c_X6_began_74, pwnr_r, fwnr_r, c_X6_began_248, pX6_whyNoSights_e, fX6_whyNoSights_e, c_X6_began_207, pX6_think_e, fX6_think_e, c_X6_began_258, pX4_beginOtherwise_e, fX4_beginOtherwise_n, c_X6_began_252, pX6_seen_n, fX6_seen_e, ofI_m1, ofI_0, ofJ_1, hp1, hp2, hp3, h, hSs, hK, hw, hx, hr, bwF_0, nI_00]
            simp
        · refine xgo0 71 ?_
          simp (config := {maxSteps := 4000000, implicitDefEqProofs := false}) only [xwp_2, xwp_0, xwp_1, xws_s, xdd_o, xld_0, xld_s, xs1_0, xs1_1, xs1_s, xs2_0, xs2_1, xs2_s, xlg_n, xlg_i, xlg_r, xlg_z, xlg_l, xf4_0, xf4_1, xf4_2, xf4_3, xgo_e, xcmp_eq, xcmp_ne, xcmp_lt, xcmp_ge, xcmp_gt, xcmp_le, xfg_0, xfg_1, xfg_2, xfg_3, xfg_4, xpop_0, xpop_s, xsw_n, xsw_c, xtb_n, xtb_c, xenp_n, xenp_i, xenp_r, xenp_z, xenp_l, xrep_0, xrep_s, Nat.reduceSub, true_and, and_true, cat_i, cat_r, Nat.reduceAdd, Nat.reduceLT, Nat.reduceLeDiff, Nat.reduceEqDiff, xnc, Int.reduceAdd, Int.reduceSub, Int.reduceNeg, Int.reduceLE, Int.reduceLT, Int.reduceToNat, ↓reduceIte, List.length_cons, List.length_nil, xlc0, xlc1, ite_10, i10, i01, i0_2, i0_3, i0_4, i0_6, i0_7, i0_8, i0_49, i0_10, or_true, true_or, or_false, false_or, not_false_eq_true, not_true_eq_false, xnt, xI_g, eq_self, xI_2, xJ_1, false_and, and_false, obT_t, obS_t, ob6_t, ob2_t, ob0_t, kT1_t, kT2_t, kT3_t, kT4_t, lT1, lT2, rT6, rT7, rT8, rT9, rT1i, rT2i, rS2, kSe_t, lSe, r0_0, r0_1, r0_2, r0_3, r0_4, r0_5, r0_6, r0_7, r0_8, r0_9, r1_i, r2_4, r2_5, r4_4, a1_t, a3_t, a5_t, a6_t, a7_t, a8_t, l1, l3, l5, l6, l7, l8, T1, T2, T3, T4, nI8, nI6, nI160, nI20, nI401, nI49, ob5_t, ob1_t, vp_tn, tn_def, lgc, dX6_began_0, st_aload_n, dX6_began_1, st_iload_n, dX6_began_2, st_invokevirtual, dX6_began_5, st_astore, dX6_began_7, st_aload, dX6_began_9, st_ifnull, dX6_began_12, dX6_began_13, st_getfield, fl_X6_18, dX6_began_16, dX6_began_17, dX6_began_20, st_ifCond, dX6_began_23, dX6_began_24, st_iconst, dX6_began_25, dX6_began_28, st_ireturn, dX6_began_29, dX6_began_31, st_invokestatic, dX6_began_34, st_istore, dX6_began_36, st_iload, dX6_began_38, dX6_began_41, dX6_began_42, dX6_began_44, dX6_began_47, dX6_began_48, dX6_began_49, dX6_began_51, dX6_began_52, dX6_began_55, dX6_began_57, dX6_began_59, dX6_began_62, dX6_began_63, dX6_began_65, dX6_began_68, dX6_began_69, dX6_began_70, dX6_began_72, dX6_began_73, dX6_began_75, dX6_began_77, dX6_began_78, dX6_began_81, fl_X6_255, dX6_began_84, st_if_icmp, dX6_began_87, dX6_began_88, dX6_began_89, dX6_began_92, st_pop, dX6_began_93, dX6_began_94, fl_X6_22, dX6_began_97, dX6_began_98, dX6_began_100, dX6_began_103, dX6_began_104, dX6_began_106, dX6_began_107, dX6_began_110, dX6_began_111, dX6_began_114, dX6_began_116, dX6_began_117, dX6_began_119, st_ishl, dX6_began_120, st_ior, dX6_began_121, dX6_began_123, st_iinc, dX6_began_126, st_goto, dX6_began_129, dX6_began_131, c_X6_began_62, pX6_shelfBy_e, fX6_shelfBy_e, Option.toList_some, Option.toList_none, List.cons_append, List.nil_append, c_X6_began_104, pX4_hasWalker_e, fX4_hasWalker_e, c_X6_began_66, pX6_refuse_e, fX6_refuse_e, c_X6_began_74, pwnr_r, fwnr_r, c_X6_began_248, pX6_whyNoSights_e, fX6_whyNoSights_e, c_X6_began_207, pX6_think_e, fX6_think_e, c_X6_began_258, pX4_beginOtherwise_e, fX4_beginOtherwise_n, c_X6_began_252, pX6_seen_n, fX6_seen_e, ofI_m1, ofI_0, ofJ_1, hp1, hp2, hp3, h, hSs, hw, hx, hr]
          clear hR
          simp only [hR2, begX, noX]
          clear hR2
          grind (splits := 40)
      · refine xgo0 71 ?_
        simp (config := {maxSteps := 4000000, implicitDefEqProofs := false}) only [xwp_2, xwp_0, xwp_1, xws_s, xdd_o, xld_0, xld_s, xs1_0, xs1_1, xs1_s, xs2_0, xs2_1, xs2_s, xlg_n, xlg_i, xlg_r, xlg_z, xlg_l, xf4_0, xf4_1, xf4_2, xf4_3, xgo_e, xcmp_eq, xcmp_ne, xcmp_lt, xcmp_ge, xcmp_gt, xcmp_le, xfg_0, xfg_1, xfg_2, xfg_3, xfg_4, xpop_0, xpop_s, xsw_n, xsw_c, xtb_n, xtb_c, xenp_n, xenp_i, xenp_r, xenp_z, xenp_l, xrep_0, xrep_s, Nat.reduceSub, true_and, and_true, cat_i, cat_r, Nat.reduceAdd, Nat.reduceLT, Nat.reduceLeDiff, Nat.reduceEqDiff, xnc, Int.reduceAdd, Int.reduceSub, Int.reduceNeg, Int.reduceLE, Int.reduceLT, Int.reduceToNat, ↓reduceIte, List.length_cons, List.length_nil, xlc0, xlc1, ite_10, i10, i01, i0_2, i0_3, i0_4, i0_6, i0_7, i0_8, i0_49, i0_10, or_true, true_or, or_false, false_or, not_false_eq_true, not_true_eq_false, xnt, xI_g, eq_self, xI_2, xJ_1, false_and, and_false, obT_t, obS_t, ob6_t, ob2_t, ob0_t, kT1_t, kT2_t, kT3_t, kT4_t, lT1, lT2, rT6, rT7, rT8, rT9, rT1i, rT2i, rS2, kSe_t, lSe, r0_0, r0_1, r0_2, r0_3, r0_4, r0_5, r0_6, r0_7, r0_8, r0_9, r1_i, r2_4, r2_5, r4_4, a1_t, a3_t, a5_t, a6_t, a7_t, a8_t, l1, l3, l5, l6, l7, l8, T1, T2, T3, T4, nI8, nI6, nI160, nI20, nI401, nI49, ob5_t, ob1_t, vp_tn, tn_def, lgc, dX6_began_0, st_aload_n, dX6_began_1, st_iload_n, dX6_began_2, st_invokevirtual, dX6_began_5, st_astore, dX6_began_7, st_aload, dX6_began_9, st_ifnull, dX6_began_12, dX6_began_13, st_getfield, fl_X6_18, dX6_began_16, dX6_began_17, dX6_began_20, st_ifCond, dX6_began_23, dX6_began_24, st_iconst, dX6_began_25, dX6_began_28, st_ireturn, dX6_began_29, dX6_began_31, st_invokestatic, dX6_began_34, st_istore, dX6_began_36, st_iload, dX6_began_38, dX6_began_41, dX6_began_42, dX6_began_44, dX6_began_47, dX6_began_48, dX6_began_49, dX6_began_51, dX6_began_52, dX6_began_55, dX6_began_57, dX6_began_59, dX6_began_62, dX6_began_63, dX6_began_65, dX6_began_68, dX6_began_69, dX6_began_70, dX6_began_72, dX6_began_73, dX6_began_75, dX6_began_77, dX6_began_78, dX6_began_81, fl_X6_255, dX6_began_84, st_if_icmp, dX6_began_87, dX6_began_88, dX6_began_89, dX6_began_92, st_pop, dX6_began_93, dX6_began_94, fl_X6_22, dX6_began_97, dX6_began_98, dX6_began_100, dX6_began_103, dX6_began_104, dX6_began_106, dX6_began_107, dX6_began_110, dX6_began_111, dX6_began_114, dX6_began_116, dX6_began_117, dX6_began_119, st_ishl, dX6_began_120, st_ior, dX6_began_121, dX6_began_123, st_iinc, dX6_began_126, st_goto, dX6_began_129, dX6_began_131, c_X6_began_62, pX6_shelfBy_e, fX6_shelfBy_e, Option.toList_some, Option.toList_none, List.cons_append, List.nil_append, c_X6_began_104, pX4_hasWalker_e, fX4_hasWalker_e, c_X6_began_66, pX6_refuse_e, fX6_refuse_e, c_X6_began_74, pwnr_r, fwnr_r, c_X6_began_248, pX6_whyNoSights_e, fX6_whyNoSights_e, c_X6_began_207, pX6_think_e, fX6_think_e, c_X6_began_258, pX4_beginOtherwise_e, fX4_beginOtherwise_n, c_X6_began_252, pX6_seen_n, fX6_seen_e, ofI_m1, ofI_0, ofJ_1, hp1, hp2, hp3, h, hSs, hw, hx]
        clear hR
        simp only [hR2, begX, noX]
        clear hR2
        grind (splits := 40)
    · by_cases hx : 0 ≤ x ∧ x < σ.1 100 2
      · refine xto 69 (fun L st t => False) 60 (fun L st t q => q.elim) ?_
        simp -implicitDefEqProofs only [xwp_2, xwp_0, xwp_1, xws_s, xdd_o, xld_0, xld_s, xs1_0, xs1_1, xs1_s, xs2_0, xs2_1, xs2_s, xlg_n, xlg_i, xlg_r, xlg_z, xlg_l, xf4_0, xf4_1, xf4_2, xf4_3, xgo_e, xcmp_eq, xcmp_ne, xcmp_lt, xcmp_ge, xcmp_gt, xcmp_le, xfg_0, xfg_1, xfg_2, xfg_3, xfg_4, xpop_0, xpop_s, xsw_n, xsw_c, xtb_n, xtb_c, xenp_n, xenp_i, xenp_r, xenp_z, xenp_l, xrep_0, xrep_s, Nat.reduceSub, true_and, and_true, cat_i, cat_r, Nat.reduceAdd, Nat.reduceLT, Nat.reduceLeDiff, Nat.reduceEqDiff, xnc, Int.reduceAdd, Int.reduceSub, Int.reduceNeg, Int.reduceLE, Int.reduceLT, Int.reduceToNat, ↓reduceIte, List.length_cons, List.length_nil, xlc0, xlc1, ite_10, i10, i01, i0_2, i0_3, i0_4, i0_6, i0_7, i0_8, i0_49, i0_10, or_true, true_or, or_false, false_or, not_false_eq_true, not_true_eq_false, xnt, xI_g, eq_self, xI_2, xJ_1, false_and, and_false, obT_t, obS_t, ob6_t, ob2_t, ob0_t, kT1_t, kT2_t, kT3_t, kT4_t, lT1, lT2, rT6, rT7, rT8, rT9, rT1i, rT2i, rS2, kSe_t, lSe, r0_0, r0_1, r0_2, r0_3, r0_4, r0_5, r0_6, r0_7, r0_8, r0_9, r1_i, r2_4, r2_5, r4_4, a1_t, a3_t, a5_t, a6_t, a7_t, a8_t, l1, l3, l5, l6, l7, l8, T1, T2, T3, T4, nI8, nI6, nI160, nI20, nI401, nI49, ob5_t, ob1_t, vp_tn, tn_def, lgc, dX6_began_0, st_aload_n, dX6_began_1, st_iload_n, dX6_began_2, st_invokevirtual, dX6_began_5, st_astore, dX6_began_7, st_aload, dX6_began_9, st_ifnull, dX6_began_12, dX6_began_13, st_getfield, fl_X6_18, dX6_began_16, dX6_began_17, dX6_began_20, st_ifCond, dX6_began_23, dX6_began_24, st_iconst, dX6_began_25, dX6_began_28, st_ireturn, dX6_began_29, dX6_began_31, st_invokestatic, dX6_began_34, st_istore, dX6_began_36, st_iload, dX6_began_38, dX6_began_41, dX6_began_42, dX6_began_44, dX6_began_47, dX6_began_48, dX6_began_49, dX6_began_51, dX6_began_52, dX6_began_55, dX6_began_57, dX6_began_59, dX6_began_62, dX6_began_63, dX6_began_65, dX6_began_68, dX6_began_69, dX6_began_70, dX6_began_72, dX6_began_73, dX6_began_75, dX6_began_77, dX6_began_78, dX6_began_81, fl_X6_255, dX6_began_84, st_if_icmp, dX6_began_87, dX6_began_88, dX6_began_89, dX6_began_92, st_pop, dX6_began_93, dX6_began_94, fl_X6_22, dX6_began_97, dX6_began_98, dX6_began_100, dX6_began_103, dX6_began_104, dX6_began_106, dX6_began_107, dX6_began_110, dX6_began_111, dX6_began_114, dX6_began_116, dX6_began_117, dX6_began_119, st_ishl, dX6_began_120, st_ior, dX6_began_121, dX6_began_123, st_iinc, dX6_began_126, st_goto, dX6_began_129, dX6_began_131, c_X6_began_62, pX6_shelfBy_e, fX6_shelfBy_e, Option.toList_some, Option.toList_none, List.cons_append, List.nil_append, c_X6_began_104, pX4_hasWalker_e, fX4_hasWalker_e, c_X6_began_66, pX6_refuse_e, fX6_refuse_e, c_X6_began_74, pwnr_r, fwnr_r, c_X6_began_248, pX6_whyNoSights_e, fX6_whyNoSights_e, c_X6_began_207, pX6_think_e, fX6_think_e, c_X6_began_258, pX4_beginOtherwise_e, fX4_beginOtherwise_n, c_X6_began_252, pX6_seen_n, fX6_seen_e, ofI_m1, ofI_0, ofJ_1, hp1, hp2, hp3, h, hSs, hw, hx]
        clear hR
        simp only [hR2, begX, noX]
        clear hR2
        grind (splits := 40)
      · refine xgo0 71 ?_
        simp (config := {maxSteps := 4000000, implicitDefEqProofs := false}) only [xwp_2, xwp_0, xwp_1, xws_s, xdd_o, xld_0, xld_s, xs1_0, xs1_1, xs1_s, xs2_0, xs2_1, xs2_s, xlg_n, xlg_i, xlg_r, xlg_z, xlg_l, xf4_0, xf4_1, xf4_2, xf4_3, xgo_e, xcmp_eq, xcmp_ne, xcmp_lt, xcmp_ge, xcmp_gt, xcmp_le, xfg_0, xfg_1, xfg_2, xfg_3, xfg_4, xpop_0, xpop_s, xsw_n, xsw_c, xtb_n, xtb_c, xenp_n, xenp_i, xenp_r, xenp_z, xenp_l, xrep_0, xrep_s, Nat.reduceSub, true_and, and_true, cat_i, cat_r, Nat.reduceAdd, Nat.reduceLT, Nat.reduceLeDiff, Nat.reduceEqDiff, xnc, Int.reduceAdd, Int.reduceSub, Int.reduceNeg, Int.reduceLE, Int.reduceLT, Int.reduceToNat, ↓reduceIte, List.length_cons, List.length_nil, xlc0, xlc1, ite_10, i10, i01, i0_2, i0_3, i0_4, i0_6, i0_7, i0_8, i0_49, i0_10, or_true, true_or, or_false, false_or, not_false_eq_true, not_true_eq_false, xnt, xI_g, eq_self, xI_2, xJ_1, false_and, and_false, obT_t, obS_t, ob6_t, ob2_t, ob0_t, kT1_t, kT2_t, kT3_t, kT4_t, lT1, lT2, rT6, rT7, rT8, rT9, rT1i, rT2i, rS2, kSe_t, lSe, r0_0, r0_1, r0_2, r0_3, r0_4, r0_5, r0_6, r0_7, r0_8, r0_9, r1_i, r2_4, r2_5, r4_4, a1_t, a3_t, a5_t, a6_t, a7_t, a8_t, l1, l3, l5, l6, l7, l8, T1, T2, T3, T4, nI8, nI6, nI160, nI20, nI401, nI49, ob5_t, ob1_t, vp_tn, tn_def, lgc, dX6_began_0, st_aload_n, dX6_began_1, st_iload_n, dX6_began_2, st_invokevirtual, dX6_began_5, st_astore, dX6_began_7, st_aload, dX6_began_9, st_ifnull, dX6_began_12, dX6_began_13, st_getfield, fl_X6_18, dX6_began_16, dX6_began_17, dX6_began_20, st_ifCond, dX6_began_23, dX6_began_24, st_iconst, dX6_began_25, dX6_began_28, st_ireturn, dX6_began_29, dX6_began_31, st_invokestatic, dX6_began_34, st_istore, dX6_began_36, st_iload, dX6_began_38, dX6_began_41, dX6_began_42, dX6_began_44, dX6_began_47, dX6_began_48, dX6_began_49, dX6_began_51, dX6_began_52, dX6_began_55, dX6_began_57, dX6_began_59, dX6_began_62, dX6_began_63, dX6_began_65, dX6_began_68, dX6_began_69, dX6_began_70, dX6_began_72, dX6_began_73, dX6_began_75, dX6_began_77, dX6_began_78, dX6_began_81, fl_X6_255, dX6_began_84, st_if_icmp, dX6_began_87, dX6_began_88, dX6_began_89, dX6_began_92, st_pop, dX6_began_93, dX6_began_94, fl_X6_22, dX6_began_97, dX6_began_98, dX6_began_100, dX6_began_103, dX6_began_104, dX6_began_106, dX6_began_107, dX6_began_110, dX6_began_111, dX6_began_114, dX6_began_116, dX6_began_117, dX6_began_119, st_ishl, dX6_began_120, st_ior, dX6_began_121, dX6_began_123, st_iinc, dX6_began_126, st_goto, dX6_began_129, dX6_began_131, c_X6_began_62, pX6_shelfBy_e, fX6_shelfBy_e, Option.toList_some, Option.toList_none, List.cons_append, List.nil_append, c_X6_began_104, pX4_hasWalker_e, fX4_hasWalker_e, c_X6_began_66, pX6_refuse_e, fX6_refuse_e, c_X6_began_74, pwnr_r, fwnr_r, c_X6_began_248, pX6_whyNoSights_e, fX6_whyNoSights_e, c_X6_began_207, pX6_think_e, fX6_think_e, c_X6_began_258, pX4_beginOtherwise_e, fX4_beginOtherwise_n, c_X6_began_252, pX6_seen_n, fX6_seen_e, ofI_m1, ofI_0, ofJ_1, hp1, hp2, hp3, h, hSs, hw, hx]
        clear hR
        simp only [hR2, begX, noX]
        clear hR2
        grind (splits := 40)
  · refine xgo0 71 ?_
    simp (config := {maxSteps := 4000000, implicitDefEqProofs := false}) only [xwp_2, xwp_0, xwp_1, xws_s, xdd_o, xld_0, xld_s, xs1_0, xs1_1, xs1_s, xs2_0, xs2_1, xs2_s, xlg_n, xlg_i, xlg_r, xlg_z, xlg_l, xf4_0, xf4_1, xf4_2, xf4_3, xgo_e, xcmp_eq, xcmp_ne, xcmp_lt, xcmp_ge, xcmp_gt, xcmp_le, xfg_0, xfg_1, xfg_2, xfg_3, xfg_4, xpop_0, xpop_s, xsw_n, xsw_c, xtb_n, xtb_c, xenp_n, xenp_i, xenp_r, xenp_z, xenp_l, xrep_0, xrep_s, Nat.reduceSub, true_and, and_true, cat_i, cat_r, Nat.reduceAdd, Nat.reduceLT, Nat.reduceLeDiff, Nat.reduceEqDiff, xnc, Int.reduceAdd, Int.reduceSub, Int.reduceNeg, Int.reduceLE, Int.reduceLT, Int.reduceToNat, ↓reduceIte, List.length_cons, List.length_nil, xlc0, xlc1, ite_10, i10, i01, i0_2, i0_3, i0_4, i0_6, i0_7, i0_8, i0_49, i0_10, or_true, true_or, or_false, false_or, not_false_eq_true, not_true_eq_false, xnt, xI_g, eq_self, xI_2, xJ_1, false_and, and_false, obT_t, obS_t, ob6_t, ob2_t, ob0_t, kT1_t, kT2_t, kT3_t, kT4_t, lT1, lT2, rT6, rT7, rT8, rT9, rT1i, rT2i, rS2, kSe_t, lSe, r0_0, r0_1, r0_2, r0_3, r0_4, r0_5, r0_6, r0_7, r0_8, r0_9, r1_i, r2_4, r2_5, r4_4, a1_t, a3_t, a5_t, a6_t, a7_t, a8_t, l1, l3, l5, l6, l7, l8, T1, T2, T3, T4, nI8, nI6, nI160, nI20, nI401, nI49, ob5_t, ob1_t, vp_tn, tn_def, lgc, dX6_began_0, st_aload_n, dX6_began_1, st_iload_n, dX6_began_2, st_invokevirtual, dX6_began_5, st_astore, dX6_began_7, st_aload, dX6_began_9, st_ifnull, dX6_began_12, dX6_began_13, st_getfield, fl_X6_18, dX6_began_16, dX6_began_17, dX6_began_20, st_ifCond, dX6_began_23, dX6_began_24, st_iconst, dX6_began_25, dX6_began_28, st_ireturn, dX6_began_29, dX6_began_31, st_invokestatic, dX6_began_34, st_istore, dX6_began_36, st_iload, dX6_began_38, dX6_began_41, dX6_began_42, dX6_began_44, dX6_began_47, dX6_began_48, dX6_began_49, dX6_began_51, dX6_began_52, dX6_began_55, dX6_began_57, dX6_began_59, dX6_began_62, dX6_began_63, dX6_began_65, dX6_began_68, dX6_began_69, dX6_began_70, dX6_began_72, dX6_began_73, dX6_began_75, dX6_began_77, dX6_began_78, dX6_began_81, fl_X6_255, dX6_began_84, st_if_icmp, dX6_began_87, dX6_began_88, dX6_began_89, dX6_began_92, st_pop, dX6_began_93, dX6_began_94, fl_X6_22, dX6_began_97, dX6_began_98, dX6_began_100, dX6_began_103, dX6_began_104, dX6_began_106, dX6_began_107, dX6_began_110, dX6_began_111, dX6_began_114, dX6_began_116, dX6_began_117, dX6_began_119, st_ishl, dX6_began_120, st_ior, dX6_began_121, dX6_began_123, st_iinc, dX6_began_126, st_goto, dX6_began_129, dX6_began_131, c_X6_began_62, pX6_shelfBy_e, fX6_shelfBy_e, Option.toList_some, Option.toList_none, List.cons_append, List.nil_append, c_X6_began_104, pX4_hasWalker_e, fX4_hasWalker_e, c_X6_began_66, pX6_refuse_e, fX6_refuse_e, c_X6_began_74, pwnr_r, fwnr_r, c_X6_began_248, pX6_whyNoSights_e, fX6_whyNoSights_e, c_X6_began_207, pX6_think_e, fX6_think_e, c_X6_began_258, pX4_beginOtherwise_e, fX4_beginOtherwise_n, c_X6_began_252, pX6_seen_n, fX6_seen_e, ofI_m1, ofI_0, ofJ_1, hp1, hp2, hp3, h, im1_0, pwnr_n, fwnr_n]
    clear hR
    simp only [hR2, begX, noX]
    clear hR2
    grind (splits := 40)
theorem rX6_began : ∀ as σ, pX6_began as σ → ∃ K as', as = .ref K :: as' ∧ xob WX K 6 := by
  rintro as σ ⟨s, n, x, rfl, hpre⟩
  exact ⟨_, _, rfl, by first | exact hpre | exact hpre.1 | exact obT hpre | exact obT hpre.1 | exact obS hpre | exact obS hpre.1 | exact obM | exact ob6 | exact ob2 | exact ob0⟩
