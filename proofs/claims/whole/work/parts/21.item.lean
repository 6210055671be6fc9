/-- one item -/
theorem rwS_k {σ : xS} : kp2 σ (rwS σ) := by
  unfold rwS
  split
  · exact kp2_i (by decide)
  · exact kp2_i (by decide)
theorem rwS_B {σ : xS} {b : Nat} : (rwS σ).1 400 b = σ.1 400 b := rwS_k.1 400 b (by decide)
def itV (σ : xS) (w : Int32) : Int32 := if w = 0 then rgV σ else if w = 1 then rlV σ else if w = 2 then roV σ else if w = 3 then wkV σ else if w = 4 then rbV σ else 0
def itS (σ : xS) (w : Int32) : xS := if w = 0 then rgS σ else if w = 1 then rlS σ else if w = 2 then roS σ else if w = 3 then wkS σ else if w = 4 then rbS σ else σ
def itR (σ : xS) : Bool := decide ((rwV σ = 0 ∧ ¬ σ.1 400 1 < 8) ∨ (rwV σ = 3 ∧ ¬ σ.1 400 2 < 6))
def itW (σ : xS) : xS := xI (itS (rwS σ) (rwV σ)) 2 1 (if ¬ itV (rwS σ) (rwV σ) = 0 ∧ (itS (rwS σ) (rwV σ)).1 2 2 ≤ (itS (rwS σ) (rwV σ)).1 2 0 then 1 else 0)
/-- behind an item's words -/
def tlX (V : Int32) (S : xS) : Int32 × xS := if V = 0 then (0, xI S 2 1 0) else if S.1 2 0 < S.1 2 2 then (rsV (xI S 2 1 0) 59, rsS (xI S 2 1 0) 59) else (rsV (xI S 2 1 1) 59, rsS (xI S 2 1 1) 59)
def riX (σ : xS) : Int32 × xS := if itR σ = true then (0, xI (rwS σ) 2 0 (σ.1 2 0)) else tlX (itV (rwS σ) (rwV σ)) (itS (rwS σ) (rwV σ))
def riV (σ : xS) : Int32 := (riX σ).1
def riS (σ : xS) : xS := (riX σ).2
theorem itV_0 {σ : xS} {w : Int32} (h : w = 0) : itV σ w = rgV σ := by unfold itV; rw [if_pos h]
theorem itS_0 {σ : xS} {w : Int32} (h : w = 0) : itS σ w = rgS σ := by unfold itS; rw [if_pos h]
theorem itV_1 {σ : xS} {w : Int32} (h : w = 1) : itV σ w = rlV σ := by unfold itV; rw [if_neg (by rw [h]; decide), if_pos h]
theorem itS_1 {σ : xS} {w : Int32} (h : w = 1) : itS σ w = rlS σ := by unfold itS; rw [if_neg (by rw [h]; decide), if_pos h]
theorem itV_2 {σ : xS} {w : Int32} (h : w = 2) : itV σ w = roV σ := by unfold itV; rw [if_neg (by rw [h]; decide), if_neg (by rw [h]; decide), if_pos h]
theorem itS_2 {σ : xS} {w : Int32} (h : w = 2) : itS σ w = roS σ := by unfold itS; rw [if_neg (by rw [h]; decide), if_neg (by rw [h]; decide), if_pos h]
theorem itV_3 {σ : xS} {w : Int32} (h : w = 3) : itV σ w = wkV σ := by unfold itV; rw [if_neg (by rw [h]; decide), if_neg (by rw [h]; decide), if_neg (by rw [h]; decide), if_pos h]
theorem itS_3 {σ : xS} {w : Int32} (h : w = 3) : itS σ w = wkS σ := by unfold itS; rw [if_neg (by rw [h]; decide), if_neg (by rw [h]; decide), if_neg (by rw [h]; decide), if_pos h]
theorem itV_4 {σ : xS} {w : Int32} (h : w = 4) : itV σ w = rbV σ := by unfold itV; rw [if_neg (by rw [h]; decide), if_neg (by rw [h]; decide), if_neg (by rw [h]; decide), if_neg (by rw [h]; decide), if_pos h]
theorem itS_4 {σ : xS} {w : Int32} (h : w = 4) : itS σ w = rbS σ := by unfold itS; rw [if_neg (by rw [h]; decide), if_neg (by rw [h]; decide), if_neg (by rw [h]; decide), if_neg (by rw [h]; decide), if_pos h]
theorem itV_5 {σ : xS} {w : Int32} (h0 : ¬ w = 0) (h1 : ¬ w = 1) (h2 : ¬ w = 2) (h3 : ¬ w = 3) (h4 : ¬ w = 4) : itV σ w = 0 := by unfold itV; rw [if_neg h0, if_neg h1, if_neg h2, if_neg h3, if_neg h4]
theorem itS_5 {σ : xS} {w : Int32} (h0 : ¬ w = 0) (h1 : ¬ w = 1) (h2 : ¬ w = 2) (h3 : ¬ w = 3) (h4 : ¬ w = 4) : itS σ w = σ := by unfold itS; rw [if_neg h0, if_neg h1, if_neg h2, if_neg h3, if_neg h4]
def pX2_readItem (as : List Value) (σ : xS) : Prop := as = [.ref 2] ∧ ((0 ≤ σ.1 400 1) ∧ (0 ≤ σ.1 400 2) ∧ (σ.1 400 2 ≤ 6))
def fX2_readItem (as : List Value) (σ : xS) : Option Value × xS := match as with
  | [.ref 2] => (some (.int (riV σ)), riS σ)
  | _ => (none, σ)
theorem pX2_readItem_e {σ : xS} : pX2_readItem [.ref 2] σ = ((0 ≤ σ.1 400 1) ∧ (0 ≤ σ.1 400 2) ∧ (σ.1 400 2 ≤ 6)) := propext ⟨fun h => h.2, fun h => ⟨rfl, h⟩⟩
theorem fX2_readItem_e  {σ : xS} : fX2_readItem [.ref 2] σ = (some (.int (riV σ)), riS σ) := rfl
def calX2_readItem : List (Nat × xCall) := [(47, (false, 1, pX2_readWord, fX2_readWord)), (51, (false, 2, pX2_hasNoRoomFor, fX2_hasNoRoomFor)), (55, (false, 1, pX2_readGait, fX2_readGait)), (59, (false, 1, pX2_readWall, fX2_readWall)), (62, (false, 1, pX2_readOpen, fX2_readOpen)), (65, (false, 1, pX2_readWalker, fX2_readWalker)), (68, (false, 1, pX2_readBeats, fX2_readBeats)), (71, (false, 2, pX2_readSign, fX2_readSign))]
theorem c_X2_readItem_47 : xlk calX2_readItem 47 = some (false, 1, pX2_readWord, fX2_readWord) := rfl
theorem c_X2_readItem_51 : xlk calX2_readItem 51 = some (false, 2, pX2_hasNoRoomFor, fX2_hasNoRoomFor) := rfl
theorem c_X2_readItem_55 : xlk calX2_readItem 55 = some (false, 1, pX2_readGait, fX2_readGait) := rfl
theorem c_X2_readItem_59 : xlk calX2_readItem 59 = some (false, 1, pX2_readWall, fX2_readWall) := rfl
theorem c_X2_readItem_62 : xlk calX2_readItem 62 = some (false, 1, pX2_readOpen, fX2_readOpen) := rfl
theorem c_X2_readItem_65 : xlk calX2_readItem 65 = some (false, 1, pX2_readWalker, fX2_readWalker) := rfl
theorem c_X2_readItem_68 : xlk calX2_readItem 68 = some (false, 1, pX2_readBeats, fX2_readBeats) := rfl
theorem c_X2_readItem_71 : xlk calX2_readItem 71 = some (false, 2, pX2_readSign, fX2_readSign) := rfl
set_option maxHeartbeats 4000000 in
set_option maxRecDepth 100000 in
theorem mX2_readItem : xMet WX yX2_readItem cX2_readItem 4 (some .boolean) 7 pX2_readItem fX2_readItem := by
  refine xMet_of (fld := xlk fldX2) (cal := xlk calX2_readItem) (ks := xlk []) (gs := xlk []) (ro := fun _ => none) 1 (by decide) WX_nd rfl fldX2_ok xKs_nil xGs_nil (Or.inr rfl) (xcal_cons (xCk_V mX2_readWord 2 (by decide) (by decide) (by decide) rfl (fun as σ h _ => rX2_readWord as σ h) w_X2_47 ⟨by decide, by decide, by decide +kernel⟩) (xcal_cons (xCk_V mX2_hasNoRoomFor 2 (by decide) (by decide) (by decide) rfl (fun as σ h _ => rX2_hasNoRoomFor as σ h) w_X2_51 ⟨by decide, by decide, by decide +kernel⟩) (xcal_cons (xCk_V mX2_readGait 2 (by decide) (by decide) (by decide) rfl (fun as σ h _ => rX2_readGait as σ h) w_X2_55 ⟨by decide, by decide, by decide +kernel⟩) (xcal_cons (xCk_V mX2_readWall 2 (by decide) (by decide) (by decide) rfl (fun as σ h _ => rX2_readWall as σ h) w_X2_59 ⟨by decide, by decide, by decide +kernel⟩) (xcal_cons (xCk_V mX2_readOpen 2 (by decide) (by decide) (by decide) rfl (fun as σ h _ => rX2_readOpen as σ h) w_X2_62 ⟨by decide, by decide, by decide +kernel⟩) (xcal_cons (xCk_V mX2_readWalker 2 (by decide) (by decide) (by decide) rfl (fun as σ h _ => rX2_readWalker as σ h) w_X2_65 ⟨by decide, by decide, by decide +kernel⟩) (xcal_cons (xCk_V mX2_readBeats 2 (by decide) (by decide) (by decide) rfl (fun as σ h _ => rX2_readBeats as σ h) w_X2_68 ⟨by decide, by decide, by decide +kernel⟩) (xcal_cons (xCk_V mX2_readSign 2 (by decide) (by decide) (by decide) rfl (fun as σ h _ => rX2_readSign as σ h) w_X2_71 ⟨by decide, by decide, by decide +kernel⟩) xcal_nil)))))))) ?_ ?_
  · rintro av σ ⟨rfl, hpre⟩
    exact Nat.le_of_ble_eq_true rfl
  rintro av σ ⟨rfl, ⟨hp1, hp2, hp3⟩⟩ Rt hR
  refine xgo0 63 ?_
  simp (config := {maxSteps := 2000000}) only [xwp_2, xwp_0, xwp_1, xws_s, xdd_o, xld_0, xld_s, xs1_0, xs1_1, xs1_s, xs2_0, xs2_1, xs2_s, xlg_n, xlg_i, xlg_r, xlg_z, xlg_l, xf4_0, xf4_1, xf4_2, xf4_3, xgo_e, xcmp_eq, xcmp_ne, xcmp_lt, xcmp_ge, xcmp_gt, xcmp_le, xfg_0, xfg_1, xfg_2, xfg_3, xfg_4, xpop_0, xpop_s, xsw_n, xsw_c, xtb_n, xtb_c, xenp_n, xenp_i, xenp_r, xenp_z, xenp_l, xrep_0, xrep_s, Nat.reduceSub, true_and, and_true, cat_i, cat_r, Nat.reduceAdd, Nat.reduceLT, Nat.reduceLeDiff, Nat.reduceEqDiff, xnc, Int.reduceAdd, Int.reduceSub, Int.reduceNeg, Int.reduceLE, Int.reduceLT, Int.reduceToNat, ↓reduceIte, List.length_cons, List.length_nil, xlc0, xlc1, ite_10, i10, i01, i0_2, i0_3, i0_4, i0_6, i0_7, i0_8, i0_49, i0_10, or_true, true_or, or_false, false_or, not_false_eq_true, not_true_eq_false, xnt, xI_g, eq_self, xI_2, xJ_1, false_and, and_false, obT_t, obS_t, ob6_t, ob2_t, ob0_t, kT1_t, kT2_t, kT3_t, kT4_t, lT1, lT2, rT6, rT7, rT8, rT9, rT1i, rT2i, rS2, kSe_t, lSe, r0_0, r0_1, r0_2, r0_3, r0_4, r0_5, r0_6, r0_7, r0_8, r0_9, r1_i, r2_4, r2_5, r4_4, a1_t, a3_t, a5_t, a6_t, a7_t, a8_t, l1, l3, l5, l6, l7, l8, T1, T2, T3, T4, nI8, nI6, nI160, nI20, nI401, nI49, ob5_t, ob1_t, vp_tn, tn_def, lgc, dX2_readItem_0, st_aload_n, dX2_readItem_1, st_getfield, fl_X2_9, dX2_readItem_4, st_istore_n, dX2_readItem_5, dX2_readItem_6, st_invokevirtual, dX2_readItem_9, dX2_readItem_10, dX2_readItem_11, st_iload_n, dX2_readItem_12, dX2_readItem_15, st_ifCond, dX2_readItem_18, dX2_readItem_19, dX2_readItem_20, st_putfield, dX2_readItem_23, st_iconst, dX2_readItem_24, st_ireturn, dX2_readItem_25, dX2_readItem_26, dX2_readItem_27, dX2_readItem_28, st_tableswitch, dX2_readItem_64, dX2_readItem_65, dX2_readItem_68, dX2_readItem_69, st_goto, dX2_readItem_72, dX2_readItem_73, dX2_readItem_76, dX2_readItem_77, dX2_readItem_80, dX2_readItem_81, dX2_readItem_84, dX2_readItem_85, dX2_readItem_88, dX2_readItem_89, dX2_readItem_92, dX2_readItem_93, dX2_readItem_96, dX2_readItem_97, dX2_readItem_100, dX2_readItem_101, dX2_readItem_104, dX2_readItem_105, dX2_readItem_106, dX2_readItem_109, dX2_readItem_110, dX2_readItem_113, dX2_readItem_114, fl_X2_19, dX2_readItem_117, st_if_icmp, dX2_readItem_120, dX2_readItem_121, dX2_readItem_124, dX2_readItem_125, fl_X2_15, dX2_readItem_128, dX2_readItem_129, dX2_readItem_132, dX2_readItem_133, st_bipush, dX2_readItem_135, dX2_readItem_138, dX2_readItem_141, dX2_readItem_142, dX2_readItem_145, dX2_readItem_146, c_X2_readItem_47, pX2_readWord_e, fX2_readWord_e, Option.toList_some, Option.toList_none, List.cons_append, List.nil_append, c_X2_readItem_51, pX2_hasNoRoomFor_e, fX2_hasNoRoomFor_e, c_X2_readItem_55, pX2_readGait_e, fX2_readGait_e, c_X2_readItem_59, pX2_readWall_e, fX2_readWall_e, c_X2_readItem_62, pX2_readOpen_e, fX2_readOpen_e, c_X2_readItem_65, pX2_readWalker_e, fX2_readWalker_e, c_X2_readItem_68, pX2_readBeats_e, fX2_readBeats_e, c_X2_readItem_71, pX2_readSign_e, fX2_readSign_e, ofI_0, ofI_m2, ofI_m1, ofI_1, ofI_2, ofI_3, ofI_4, ofI_5, ofI_6, ofI_7, ofI_8, ofI_9, ofI_10, ofI_11, ofI_59, rwS_B, hp1, hp2, hp3]
  simp only [hR, fX2_readItem_e]
  clear hR
  have hr : itR σ = true ↔ ((rwV σ = 0 ∧ ¬ σ.1 400 1 < 8) ∨ (rwV σ = 3 ∧ ¬ σ.1 400 2 < 6)) := decide_eq_true_iff
  have rb : ∀ s, rsV s 59 = 0 ∨ rsV s 59 = 1 := fun s => by unfold rsV; split; exact Or.inr rfl; exact Or.inl rfl
  have f1 : itR σ = true → riV σ = 0 ∧ riS σ = xI (rwS σ) 2 0 (σ.1 2 0) := fun h => by rw [riV, riS, riX, if_pos h]; exact ⟨rfl, rfl⟩
  have f2 : ¬ itR σ = true → (tlX (itV (rwS σ) (rwV σ)) (itS (rwS σ) (rwV σ))).1 = riV σ ∧ (tlX (itV (rwS σ) (rwV σ)) (itS (rwS σ) (rwV σ))).2 = riS σ := fun h => by rw [riV, riS, riX, if_neg h]; exact ⟨rfl, rfl⟩
  rw [← hr]
  refine ⟨fun h => ?_, fun h => by have q := f1 h; rw [q.1, q.2]; exact ⟨rfl, rfl⟩⟩
  have q := f2 h
  clear f1 f2
  rw [hr] at h
  by_cases h0 : rwV σ = 0
  · have hv := itV_0 (σ := rwS σ) h0
    have hs := itS_0 (σ := rwS σ) h0
    rw [hv, hs] at q
    rw [h0]
    rw [h0] at h
    clear hv hs
    generalize rgV (rwS σ) = V at *
    generalize rgS (rwS σ) = S at *
    have rb0 := rb (xI S 2 1 0)
    have rb1 := rb (xI S 2 1 1)
    clear rb hr
    rw [← q.1, ← q.2]
    unfold tlX
    clear q
    by_cases g1 : V = 0
    · simp only [g1, ↓reduceIte]
      grind
    · by_cases g2 : S.1 2 0 < S.1 2 2
      · simp only [g1, g2, ↓reduceIte]
        grind
      · simp only [g1, g2, ↓reduceIte]
        grind
  by_cases h1 : rwV σ = 1
  · have hv := itV_1 (σ := rwS σ) h1
    have hs := itS_1 (σ := rwS σ) h1
    rw [hv, hs] at q
    rw [h1]
    rw [h1] at h
    clear hv hs
    generalize rlV (rwS σ) = V at *
    generalize rlS (rwS σ) = S at *
    have rb0 := rb (xI S 2 1 0)
    have rb1 := rb (xI S 2 1 1)
    clear rb hr
    rw [← q.1, ← q.2]
    unfold tlX
    clear q
    by_cases g1 : V = 0
    · simp only [g1, ↓reduceIte]
      grind
    · by_cases g2 : S.1 2 0 < S.1 2 2
      · simp only [g1, g2, ↓reduceIte]
        grind
      · simp only [g1, g2, ↓reduceIte]
        grind
  by_cases h2 : rwV σ = 2
  · have hv := itV_2 (σ := rwS σ) h2
    have hs := itS_2 (σ := rwS σ) h2
    rw [hv, hs] at q
    rw [h2]
    rw [h2] at h
    clear hv hs
    generalize roV (rwS σ) = V at *
    generalize roS (rwS σ) = S at *
    have rb0 := rb (xI S 2 1 0)
    have rb1 := rb (xI S 2 1 1)
    clear rb hr
    rw [← q.1, ← q.2]
    unfold tlX
    clear q
    by_cases g1 : V = 0
    · simp only [g1, ↓reduceIte]
      grind
    · by_cases g2 : S.1 2 0 < S.1 2 2
      · simp only [g1, g2, ↓reduceIte]
        grind
      · simp only [g1, g2, ↓reduceIte]
        grind
  by_cases h3 : rwV σ = 3
  · have hv := itV_3 (σ := rwS σ) h3
    have hs := itS_3 (σ := rwS σ) h3
    rw [hv, hs] at q
    rw [h3]
    rw [h3] at h
    clear hv hs
    generalize wkV (rwS σ) = V at *
    generalize wkS (rwS σ) = S at *
    have rb0 := rb (xI S 2 1 0)
    have rb1 := rb (xI S 2 1 1)
    clear rb hr
    rw [← q.1, ← q.2]
    unfold tlX
    clear q
    by_cases g1 : V = 0
    · simp only [g1, ↓reduceIte]
      grind
    · by_cases g2 : S.1 2 0 < S.1 2 2
      · simp only [g1, g2, ↓reduceIte]
        grind
      · simp only [g1, g2, ↓reduceIte]
        grind
  by_cases h4 : rwV σ = 4
  · have hv := itV_4 (σ := rwS σ) h4
    have hs := itS_4 (σ := rwS σ) h4
    rw [hv, hs] at q
    rw [h4]
    rw [h4] at h
    clear hv hs
    generalize rbV (rwS σ) = V at *
    generalize rbS (rwS σ) = S at *
    have rb0 := rb (xI S 2 1 0)
    have rb1 := rb (xI S 2 1 1)
    clear rb hr
    rw [← q.1, ← q.2]
    unfold tlX
    clear q
    by_cases g1 : V = 0
    · simp only [g1, ↓reduceIte]
      grind
    · by_cases g2 : S.1 2 0 < S.1 2 2
      · simp only [g1, g2, ↓reduceIte]
        grind
      · simp only [g1, g2, ↓reduceIte]
        grind
  · have hv := itV_5 (σ := rwS σ) h0 h1 h2 h3 h4
    have hs := itS_5 (σ := rwS σ) h0 h1 h2 h3 h4
    rw [hv, hs, tlX, if_pos rfl] at q
    rw [← q.1, ← q.2]
    clear q hv hs hr rb
    grind
theorem rX2_readItem : ∀ as σ, pX2_readItem as σ → ∃ K as', as = .ref K :: as' ∧ xob WX K 2 := by
  rintro as σ ⟨rfl, hpre⟩
  exact ⟨_, _, rfl, by first | exact hpre | exact hpre.1 | exact obT hpre | exact obT hpre.1 | exact obS hpre | exact obS hpre.1 | exact obM | exact ob6 | exact ob2 | exact ob0⟩
def pX0_forget (as : List Value) (σ : xS) : Prop := as = [.ref 4] ∧ (True)
def fX0_forget (as : List Value) (σ : xS) : Option Value × xS := match as with
  | [.ref 4] => (none, xI σ 4 0 0)
  | _ => (none, σ)
theorem pX0_forget_e {σ : xS} : pX0_forget [.ref 4] σ = (True) := propext ⟨fun h => h.2, fun h => ⟨rfl, h⟩⟩
theorem fX0_forget_e  {σ : xS} : fX0_forget [.ref 4] σ = (none, xI σ 4 0 0) := rfl
def calX0_forget : List (Nat × xCall) := []
set_option maxHeartbeats 4000000 in
set_option maxRecDepth 100000 in
theorem mX0_forget : xMet WX yX0_forget cX0_forget 1 none 1 pX0_forget fX0_forget := by
  refine xMet_of (fld := xlk fldX0) (cal := xlk calX0_forget) (ks := xlk []) (gs := xlk []) (ro := fun _ => none) 4 (by decide) WX_nd rfl fldX0_ok xKs_nil xGs_nil (Or.inr rfl) xcal_nil ?_ ?_
  · rintro av σ ⟨rfl, hpre⟩
    exact Nat.le_of_ble_eq_true rfl
  rintro av σ ⟨rfl, hp1⟩ Rt hR
  refine xgo0 6 ?_
  simp (config := {maxSteps := 2000000}) only [xwp_2, xwp_0, xwp_1, xws_s, xdd_o, xld_0, xld_s, xs1_0, xs1_1, xs1_s, xs2_0, xs2_1, xs2_s, xlg_n, xlg_i, xlg_r, xlg_z, xlg_l, xf4_0, xf4_1, xf4_2, xf4_3, xgo_e, xcmp_eq, xcmp_ne, xcmp_lt, xcmp_ge, xcmp_gt, xcmp_le, xfg_0, xfg_1, xfg_2, xfg_3, xfg_4, xpop_0, xpop_s, xsw_n, xsw_c, xtb_n, xtb_c, xenp_n, xenp_i, xenp_r, xenp_z, xenp_l, xrep_0, xrep_s, Nat.reduceSub, true_and, and_true, cat_i, cat_r, Nat.reduceAdd, Nat.reduceLT, Nat.reduceLeDiff, Nat.reduceEqDiff, xnc, Int.reduceAdd, Int.reduceSub, Int.reduceNeg, Int.reduceLE, Int.reduceLT, Int.reduceToNat, ↓reduceIte, List.length_cons, List.length_nil, xlc0, xlc1, ite_10, i10, i01, i0_2, i0_3, i0_4, i0_6, i0_7, i0_8, i0_49, i0_10, or_true, true_or, or_false, false_or, not_false_eq_true, not_true_eq_false, xnt, xI_g, eq_self, xI_2, xJ_1, false_and, and_false, obT_t, obS_t, ob6_t, ob2_t, ob0_t, kT1_t, kT2_t, kT3_t, kT4_t, lT1, lT2, rT6, rT7, rT8, rT9, rT1i, rT2i, rS2, kSe_t, lSe, r0_0, r0_1, r0_2, r0_3, r0_4, r0_5, r0_6, r0_7, r0_8, r0_9, r1_i, r2_4, r2_5, r4_4, a1_t, a3_t, a5_t, a6_t, a7_t, a8_t, l1, l3, l5, l6, l7, l8, T1, T2, T3, T4, nI8, nI6, nI160, nI20, nI401, nI49, ob5_t, ob1_t, vp_tn, tn_def, lgc, dX0_forget_0, st_aload_n, dX0_forget_1, st_iconst, dX0_forget_2, st_putfield, fl_X0_9, dX0_forget_5, st_return_, ofI_0, hp1]
  try simp only [hR, fX0_forget_e, Option.some.injEq, Value.int.injEq, Value.long.injEq, Value.ref.injEq, and_true, true_and]
  all_goals grind
theorem rX0_forget : ∀ as σ, pX0_forget as σ → ∃ K as', as = .ref K :: as' ∧ xob WX K 0 := by
  rintro as σ ⟨rfl, hpre⟩
  exact ⟨_, _, rfl, by first | exact hpre | exact hpre.1 | exact obT hpre | exact obT hpre.1 | exact obS hpre | exact obS hpre.1 | exact obM | exact ob6 | exact ob2 | exact ob0⟩
def ntS (σ : xS) (b : Int32) : xS := if 0 ≤ σ.1 4 0 ∧ σ.1 4 0 < 20 then xI (xI σ 5 (tn (σ.1 4 0)) b) 4 0 (σ.1 4 0 + 1) else xI σ 4 0 (σ.1 4 0 + 1)
theorem lt20 {i : Int32} (h : 0 ≤ i ∧ i < 20) : tn i < 20 := by
  have h1 : i.toInt < 20 := by simpa using Int32.lt_iff_toInt_lt.mp h.2
  show i.toInt.toNat < 20
  omega
def pX0_note (as : List Value) (σ : xS) : Prop := ∃ (b : Int32), as = [.ref 4, .int b] ∧ (True)
def fX0_note (as : List Value) (σ : xS) : Option Value × xS := match as with
  | [.ref 4, .int b] => (none, ntS σ b)
  | _ => (none, σ)
theorem pX0_note_e {b : Int32} {σ : xS} : pX0_note [.ref 4, .int b] σ = (True) := propext ⟨fun h => by obtain ⟨b, e, h⟩ := h; cases e; exact h, fun h => ⟨b, rfl, h⟩⟩
theorem fX0_note_e {b : Int32} {σ : xS} : fX0_note [.ref 4, .int b] σ = (none, ntS σ b) := rfl
def calX0_note : List (Nat × xCall) := []
set_option maxHeartbeats 4000000 in
set_option maxRecDepth 100000 in
theorem mX0_note : xMet WX yX0_note cX0_note 2 none 1 pX0_note fX0_note := by
  refine xMet_of (fld := xlk fldX0) (cal := xlk calX0_note) (ks := xlk []) (gs := xlk []) (ro := fun _ => none) 4 (by decide) WX_nd rfl fldX0_ok xKs_nil xGs_nil (Or.inr rfl) xcal_nil ?_ ?_
  · rintro av σ ⟨b, rfl, hpre⟩
    exact Nat.le_of_ble_eq_true rfl
  rintro av σ ⟨b, rfl, hp1⟩ Rt hR
  refine xgo0 24 ?_
  simp (config := {maxSteps := 2000000}) only [xwp_2, xwp_0, xwp_1, xws_s, xdd_o, xld_0, xld_s, xs1_0, xs1_1, xs1_s, xs2_0, xs2_1, xs2_s, xlg_n, xlg_i, xlg_r, xlg_z, xlg_l, xf4_0, xf4_1, xf4_2, xf4_3, xgo_e, xcmp_eq, xcmp_ne, xcmp_lt, xcmp_ge, xcmp_gt, xcmp_le, xfg_0, xfg_1, xfg_2, xfg_3, xfg_4, xpop_0, xpop_s, xsw_n, xsw_c, xtb_n, xtb_c, xenp_n, xenp_i, xenp_r, xenp_z, xenp_l, xrep_0, xrep_s, Nat.reduceSub, true_and, and_true, cat_i, cat_r, Nat.reduceAdd, Nat.reduceLT, Nat.reduceLeDiff, Nat.reduceEqDiff, xnc, Int.reduceAdd, Int.reduceSub, Int.reduceNeg, Int.reduceLE, Int.reduceLT, Int.reduceToNat, ↓reduceIte, List.length_cons, List.length_nil, xlc0, xlc1, ite_10, i10, i01, i0_2, i0_3, i0_4, i0_6, i0_7, i0_8, i0_49, i0_10, or_true, true_or, or_false, false_or, not_false_eq_true, not_true_eq_false, xnt, xI_g, eq_self, xI_2, xJ_1, false_and, and_false, obT_t, obS_t, ob6_t, ob2_t, ob0_t, kT1_t, kT2_t, kT3_t, kT4_t, lT1, lT2, rT6, rT7, rT8, rT9, rT1i, rT2i, rS2, kSe_t, lSe, r0_0, r0_1, r0_2, r0_3, r0_4, r0_5, r0_6, r0_7, r0_8, r0_9, r1_i, r2_4, r2_5, r4_4, a1_t, a3_t, a5_t, a6_t, a7_t, a8_t, l1, l3, l5, l6, l7, l8, T1, T2, T3, T4, nI8, nI6, nI160, nI20, nI401, nI49, ob5_t, ob1_t, vp_tn, tn_def, lgc, dX0_note_0, st_aload_n, dX0_note_1, st_getfield, fl_X0_9, dX0_note_4, st_ifCond, dX0_note_7, dX0_note_8, dX0_note_11, dX0_note_12, fl_X0_24, dX0_note_15, st_arraylength, dX0_note_16, st_if_icmp, dX0_note_19, dX0_note_20, dX0_note_23, dX0_note_24, dX0_note_27, st_iload_n, dX0_note_28, st_iastore, dX0_note_29, dX0_note_30, st_dup, dX0_note_31, dX0_note_34, st_iconst, dX0_note_35, st_iadd, dX0_note_36, st_putfield, dX0_note_39, st_return_, ofI_1, hp1]
  simp only [hR, fX0_note_e, ntS]
  have h20 : ∀ i, 0 ≤ i ∧ i < 20 → tn i < 20 := fun i => lt20
  have e5 : ∀ v, (xI σ 5 (tn (σ.1 4 0)) v).1 4 0 = σ.1 4 0 := fun v => xI_n (fun e => by omega)
  grind
theorem rX0_note : ∀ as σ, pX0_note as σ → ∃ K as', as = .ref K :: as' ∧ xob WX K 0 := by
  rintro as σ ⟨b, rfl, hpre⟩
  exact ⟨_, _, rfl, by first | exact hpre | exact hpre.1 | exact obT hpre | exact obT hpre.1 | exact obS hpre | exact obS hpre.1 | exact obM | exact ob6 | exact ob2 | exact ob0⟩
def pX0_bodyAt (as : List Value) (σ : xS) : Prop := ∃ (i : Int32), as = [.ref 4, .int i] ∧ (True)
def fX0_bodyAt (as : List Value) (σ : xS) : Option Value × xS := match as with
  | [.ref 4, .int i] => (some (.int (if 0 ≤ i ∧ i < σ.1 4 0 ∧ i < 20 then σ.1 5 (tn i) else -1)), σ)
  | _ => (none, σ)
theorem pX0_bodyAt_e {i : Int32} {σ : xS} : pX0_bodyAt [.ref 4, .int i] σ = (True) := propext ⟨fun h => by obtain ⟨i, e, h⟩ := h; cases e; exact h, fun h => ⟨i, rfl, h⟩⟩
theorem fX0_bodyAt_e {i : Int32} {σ : xS} : fX0_bodyAt [.ref 4, .int i] σ = (some (.int (if 0 ≤ i ∧ i < σ.1 4 0 ∧ i < 20 then σ.1 5 (tn i) else -1)), σ) := rfl
def calX0_bodyAt : List (Nat × xCall) := []
set_option maxHeartbeats 4000000 in
set_option maxRecDepth 100000 in
theorem mX0_bodyAt : xMet WX yX0_bodyAt cX0_bodyAt 2 (some .int) 1 pX0_bodyAt fX0_bodyAt := by
  refine xMet_of (fld := xlk fldX0) (cal := xlk calX0_bodyAt) (ks := xlk []) (gs := xlk []) (ro := fun _ => none) 0 (by decide) WX_nd rfl fldX0_ok xKs_nil xGs_nil (Or.inr rfl) xcal_nil ?_ ?_
  · rintro av σ ⟨i, rfl, hpre⟩
    exact Nat.le_of_ble_eq_true rfl
  rintro av σ ⟨i, rfl, hp1⟩ Rt hR
  refine xgo0 20 ?_
  simp (config := {maxSteps := 2000000}) only [xwp_2, xwp_0, xwp_1, xws_s, xdd_o, xld_0, xld_s, xs1_0, xs1_1, xs1_s, xs2_0, xs2_1, xs2_s, xlg_n, xlg_i, xlg_r, xlg_z, xlg_l, xf4_0, xf4_1, xf4_2, xf4_3, xgo_e, xcmp_eq, xcmp_ne, xcmp_lt, xcmp_ge, xcmp_gt, xcmp_le, xfg_0, xfg_1, xfg_2, xfg_3, xfg_4, xpop_0, xpop_s, xsw_n, xsw_c, xtb_n, xtb_c, xenp_n, xenp_i, xenp_r, xenp_z, xenp_l, xrep_0, xrep_s, Nat.reduceSub, true_and, and_true, cat_i, cat_r, Nat.reduceAdd, Nat.reduceLT, Nat.reduceLeDiff, Nat.reduceEqDiff, xnc, Int.reduceAdd, Int.reduceSub, Int.reduceNeg, Int.reduceLE, Int.reduceLT, Int.reduceToNat, ↓reduceIte, List.length_cons, List.length_nil, xlc0, xlc1, ite_10, i10, i01, i0_2, i0_3, i0_4, i0_6, i0_7, i0_8, i0_49, i0_10, or_true, true_or, or_false, false_or, not_false_eq_true, not_true_eq_false, xnt, xI_g, eq_self, xI_2, xJ_1, false_and, and_false, obT_t, obS_t, ob6_t, ob2_t, ob0_t, kT1_t, kT2_t, kT3_t, kT4_t, lT1, lT2, rT6, rT7, rT8, rT9, rT1i, rT2i, rS2, kSe_t, lSe, r0_0, r0_1, r0_2, r0_3, r0_4, r0_5, r0_6, r0_7, r0_8, r0_9, r1_i, r2_4, r2_5, r4_4, a1_t, a3_t, a5_t, a6_t, a7_t, a8_t, l1, l3, l5, l6, l7, l8, T1, T2, T3, T4, nI8, nI6, nI160, nI20, nI401, nI49, ob5_t, ob1_t, vp_tn, tn_def, lgc, dX0_bodyAt_0, st_iload_n, dX0_bodyAt_1, st_ifCond, dX0_bodyAt_4, dX0_bodyAt_5, st_aload_n, dX0_bodyAt_6, st_getfield, fl_X0_9, dX0_bodyAt_9, st_if_icmp, dX0_bodyAt_12, dX0_bodyAt_13, dX0_bodyAt_14, fl_X0_24, dX0_bodyAt_17, st_arraylength, dX0_bodyAt_18, dX0_bodyAt_21, dX0_bodyAt_22, dX0_bodyAt_25, dX0_bodyAt_26, st_iaload, dX0_bodyAt_27, st_goto, dX0_bodyAt_30, st_iconst, dX0_bodyAt_31, st_ireturn, ofI_m1, hp1]
  simp only [hR, fX0_bodyAt_e]
  have h20 : 0 ≤ i ∧ i < 20 → tn i < 20 := lt20
  grind
theorem rX0_bodyAt : ∀ as σ, pX0_bodyAt as σ → ∃ K as', as = .ref K :: as' ∧ xob WX K 0 := by
  rintro as σ ⟨i, rfl, hpre⟩
  exact ⟨_, _, rfl, by first | exact hpre | exact hpre.1 | exact obT hpre | exact obT hpre.1 | exact obS hpre | exact obS hpre.1 | exact obM | exact ob6 | exact ob2 | exact ob0⟩
