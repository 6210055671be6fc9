/-- letters alike with a word's -/
def caA (σ : xS) (K : Nat) (i : Nat) : Bool := decide (¬ ltA σ (σ.1 2 0 + nI i) = xch (K - 910) (nI i))
def caN (σ : xS) (K : Nat) : Nat := xfs (caA σ K) (tn (xln (K - 910)))
def caV (σ : xS) (K : Nat) : Int32 := nI (caN σ K)
theorem xln_6 : ∀ i, i < 5 → tn (xln i) ≤ 6 ∧ 0 ≤ xln i := by decide +kernel
theorem xln_t {K : Nat} (h : 910 ≤ K ∧ K < 915) : tn (xln (K - 910)) ≤ 6 := (xln_6 (K - 910) (by omega)).1
def pX2_countAlike (as : List Value) (σ : xS) : Prop := ∃ (K : Nat), as = [.ref 2, .ref K] ∧ (910 ≤ K ∧ K < 915)
def fX2_countAlike (as : List Value) (σ : xS) : Option Value × xS := match as with
  | [.ref 2, .ref K] => (some (.int (caV σ K)), σ)
  | _ => (none, σ)
theorem pX2_countAlike_e {K : Nat} {σ : xS} : pX2_countAlike [.ref 2, .ref K] σ = (910 ≤ K ∧ K < 915) := propext ⟨fun h => by obtain ⟨K, e, h⟩ := h; cases e; exact h, fun h => ⟨K, rfl, h⟩⟩
theorem fX2_countAlike_e {K : Nat} {σ : xS} : fX2_countAlike [.ref 2, .ref K] σ = (some (.int (caV σ K)), σ) := rfl
def calX2_countAlike : List (Nat × xCall) := [(99, (false, 1, pWd, fSlen)), (110, (false, 2, pX2_letterAt, fX2_letterAt)), (113, (false, 2, pSch, fSch))]
theorem c_X2_countAlike_99 : xlk calX2_countAlike 99 = some (false, 1, pWd, fSlen) := rfl
theorem c_X2_countAlike_110 : xlk calX2_countAlike 110 = some (false, 2, pX2_letterAt, fX2_letterAt) := rfl
theorem c_X2_countAlike_113 : xlk calX2_countAlike 113 = some (false, 2, pSch, fSch) := rfl
set_option maxHeartbeats 4000000 in
set_option maxRecDepth 100000 in
theorem mX2_countAlike : xMet WX yX2_countAlike cX2_countAlike 3 (some .int) 5 pX2_countAlike fX2_countAlike := by
  refine xMet_of (fld := xlk fldX2) (cal := xlk calX2_countAlike) (ks := xlk []) (gs := xlk []) (ro := fun _ => none) 0 (by decide) WX_nd rfl fldX2_ok xKs_nil xGs_nil (Or.inr rfl) (xcal_cons (xCk_W (n := 0) mJ0_length_8abf5 (by decide) (by decide) rfl pWd_r w_X2_99 ⟨by decide, by decide, by decide +kernel⟩) (xcal_cons (xCk_V mX2_letterAt 2 (by decide) (by decide) (by decide) rfl (fun as σ h _ => rX2_letterAt as σ h) w_X2_110 ⟨by decide, by decide, by decide +kernel⟩) (xcal_cons (xCk_W (n := 1) mJ0_charAt_5068e (by decide) (by decide) rfl pSch_r w_X2_113 ⟨by decide, by decide, by decide +kernel⟩) xcal_nil))) ?_ ?_
  · rintro av σ ⟨K, rfl, hpre⟩
    exact Nat.le_of_ble_eq_true rfl
  rintro av σ ⟨K, rfl, hp1⟩ Rt hR
  have h6 := xln_t hp1
  refine xfor0 2 (tn (xln (K - 910))) 60 20 (fun i => [some (.ref 2), some (.ref K), some (.int (nI i))]) (fun i => σ) (fun i => ∀ j, j < i → caA σ K j = false) (fun j hj => by omega) (fun i hi hH => ?_) ?_
  · simp only [xwp_2, xwp_0, xwp_1, xws_s, xdd_o, xld_0, xld_s, xs1_0, xs1_1, xs1_s, xs2_0, xs2_1, xs2_s, xlg_n, xlg_i, xlg_r, xlg_z, xlg_l, xf4_0, xf4_1, xf4_2, xf4_3, xgo_e, xcmp_eq, xcmp_ne, xcmp_lt, xcmp_ge, xcmp_gt, xcmp_le, xfg_0, xfg_1, xfg_2, xfg_3, xfg_4, xpop_0, xpop_s, xsw_n, xsw_c, xtb_n, xtb_c, xenp_n, xenp_i, xenp_r, xenp_z, xenp_l, xrep_0, xrep_s, Nat.reduceSub, true_and, and_true, cat_i, cat_r, Nat.reduceAdd, Nat.reduceLT, Nat.reduceLeDiff, Nat.reduceEqDiff, xnc, Int.reduceAdd, Int.reduceSub, Int.reduceNeg, Int.reduceLE, Int.reduceLT, Int.reduceToNat, ↓reduceIte, List.length_cons, List.length_nil, xlc0, xlc1, ite_10, i10, i01, i0_2, i0_3, i0_4, i0_6, i0_7, i0_8, i0_49, i0_10, or_true, true_or, or_false, false_or, not_false_eq_true, not_true_eq_false, xnt, xI_g, eq_self, xI_2, xJ_1, false_and, and_false, obT_t, obS_t, ob6_t, ob2_t, ob0_t, kT1_t, kT2_t, kT3_t, kT4_t, lT1, lT2, rT6, rT7, rT8, rT9, rT1i, rT2i, rS2, kSe_t, lSe, r0_0, r0_1, r0_2, r0_3, r0_4, r0_5, r0_6, r0_7, r0_8, r0_9, r1_i, r2_4, r2_5, r4_4, a1_t, a3_t, a5_t, a6_t, a7_t, a8_t, l1, l3, l5, l6, l7, l8, T1, T2, T3, T4, nI8, nI6, nI160, nI20, nI401, nI49, ob5_t, ob1_t, vp_tn, tn_def, lgc, dX2_countAlike_0, st_iconst, dX2_countAlike_1, st_istore_n, dX2_countAlike_2, st_iload_n, dX2_countAlike_3, st_aload_n, dX2_countAlike_4, st_invokevirtual, dX2_countAlike_7, st_if_icmp, dX2_countAlike_10, dX2_countAlike_11, dX2_countAlike_12, st_getfield, fl_X2_9, dX2_countAlike_15, dX2_countAlike_16, st_iadd, dX2_countAlike_17, dX2_countAlike_20, dX2_countAlike_21, dX2_countAlike_22, dX2_countAlike_25, dX2_countAlike_28, st_iinc, dX2_countAlike_31, st_goto, dX2_countAlike_34, dX2_countAlike_35, st_ireturn, c_X2_countAlike_99, pWd_e, fSlen_e, Option.toList_some, Option.toList_none, List.cons_append, List.nil_append, c_X2_countAlike_110, pX2_letterAt_e, fX2_letterAt_e, c_X2_countAlike_113, pSch_e, fSch_e, ofI_0, ofI_1, hp1]
    have hc := le_nI_tn (i := i) (x := xln (K - 910)) hi
    have e1 : nI i + 1 = nI (i + 1) := nI_1 i
    have e3 : caA σ K i = decide (¬ ltA σ (σ.1 2 0 + nI i) = xch (K - 910) (nI i)) := rfl
    have p0 : 0 ≤ nI i := nI_pos' (by omega)
    have cont : caA σ K i = false → (∀ j, j < i + 1 → caA σ K j = false) := fun h2 => xall_s hH h2
    have fin : i = tn (xln (K - 910)) → Rt (some (.int (nI i))) σ := fun h => by
      rw [hR, fX2_countAlike_e, caV, caN, xfs_no (fun j hj => hH j (by omega)), ← h]
      exact ⟨rfl, rfl⟩
    have stop : i < tn (xln (K - 910)) → caA σ K i = true → Rt (some (.int (nI i))) σ := fun h1 h2 => by
      rw [hR, fX2_countAlike_e, caV, caN, xfs_at h1 h2 hH]
      exact ⟨rfl, rfl⟩
    have hlt : i < tn (xln (K - 910)) → nI i < xln (K - 910) := fun h => Int32.not_le.mp (fun q => by rw [hc] at q; omega)
    refine ⟨fun h => ?_, fun h => ?_⟩
    · rw [hc] at h
      exact fin (by omega)
    · have hn : i < tn (xln (K - 910)) := by rw [hc] at h; omega
      have hl := hlt hn
      rw [e1]
      grind
  · simp only [xwp_2, xwp_0, xwp_1, xws_s, xdd_o, xld_0, xld_s, xs1_0, xs1_1, xs1_s, xs2_0, xs2_1, xs2_s, xlg_n, xlg_i, xlg_r, xlg_z, xlg_l, xf4_0, xf4_1, xf4_2, xf4_3, xgo_e, xcmp_eq, xcmp_ne, xcmp_lt, xcmp_ge, xcmp_gt, xcmp_le, xfg_0, xfg_1, xfg_2, xfg_3, xfg_4, xpop_0, xpop_s, xsw_n, xsw_c, xtb_n, xtb_c, xenp_n, xenp_i, xenp_r, xenp_z, xenp_l, xrep_0, xrep_s, Nat.reduceSub, true_and, and_true, cat_i, cat_r, Nat.reduceAdd, Nat.reduceLT, Nat.reduceLeDiff, Nat.reduceEqDiff, xnc, Int.reduceAdd, Int.reduceSub, Int.reduceNeg, Int.reduceLE, Int.reduceLT, Int.reduceToNat, ↓reduceIte, List.length_cons, List.length_nil, xlc0, xlc1, ite_10, i10, i01, i0_2, i0_3, i0_4, i0_6, i0_7, i0_8, i0_49, i0_10, or_true, true_or, or_false, false_or, not_false_eq_true, not_true_eq_false, xnt, xI_g, eq_self, xI_2, xJ_1, false_and, and_false, obT_t, obS_t, ob6_t, ob2_t, ob0_t, kT1_t, kT2_t, kT3_t, kT4_t, lT1, lT2, rT6, rT7, rT8, rT9, rT1i, rT2i, rS2, kSe_t, lSe, r0_0, r0_1, r0_2, r0_3, r0_4, r0_5, r0_6, r0_7, r0_8, r0_9, r1_i, r2_4, r2_5, r4_4, a1_t, a3_t, a5_t, a6_t, a7_t, a8_t, l1, l3, l5, l6, l7, l8, T1, T2, T3, T4, nI8, nI6, nI160, nI20, nI401, nI49, ob5_t, ob1_t, vp_tn, tn_def, lgc, dX2_countAlike_0, st_iconst, dX2_countAlike_1, st_istore_n, dX2_countAlike_2, st_iload_n, dX2_countAlike_3, st_aload_n, dX2_countAlike_4, st_invokevirtual, dX2_countAlike_7, st_if_icmp, dX2_countAlike_10, dX2_countAlike_11, dX2_countAlike_12, st_getfield, fl_X2_9, dX2_countAlike_15, dX2_countAlike_16, st_iadd, dX2_countAlike_17, dX2_countAlike_20, dX2_countAlike_21, dX2_countAlike_22, dX2_countAlike_25, dX2_countAlike_28, st_iinc, dX2_countAlike_31, st_goto, dX2_countAlike_34, dX2_countAlike_35, st_ireturn, c_X2_countAlike_99, pWd_e, fSlen_e, Option.toList_some, Option.toList_none, List.cons_append, List.nil_append, c_X2_countAlike_110, pX2_letterAt_e, fX2_letterAt_e, c_X2_countAlike_113, pSch_e, fSch_e, ofI_0, ofI_1, hp1]
    first | exact rfl | exact ⟨rfl, rfl⟩ | trivial
theorem rX2_countAlike : ∀ as σ, pX2_countAlike as σ → ∃ K as', as = .ref K :: as' ∧ xob WX K 2 := by
  rintro as σ ⟨K, rfl, hpre⟩
  exact ⟨_, _, rfl, by first | exact hpre | exact hpre.1 | exact obT hpre | exact obT hpre.1 | exact obS hpre | exact obS hpre.1 | exact obM | exact ob6 | exact ob2 | exact ob0⟩
/-- the word here -/
def waV (σ : xS) (i : Nat) : Int32 := caV σ (wdK (nI i))
def waE (σ : xS) (i : Nat) : Bool := decide (waV σ i = xln (wdK (nI i) - 910))
def waM (σ : xS) : Nat → Int32
  | 0 => 0
  | i + 1 => if waM σ i < waV σ i then waV σ i else waM σ i
def wal (i : Nat) : Option Value := match i with
  | 0 => none
  | i + 1 => some (.ref (wdK (nI i)))
def wam (σ : xS) (i : Nat) : Option Value := match i with
  | 0 => none
  | i + 1 => some (.int (waV σ i))
def rwN (σ : xS) : Nat := xfs (waE σ) 5
def rwV (σ : xS) : Int32 := if rwN σ < 5 then nI (rwN σ) else -1
def rwS (σ : xS) : xS := if rwN σ < 5 then xI σ 2 0 (σ.1 2 0 + waV σ (rwN σ)) else xI σ 2 0 (σ.1 2 0 + waM σ 5)
def pX2_readWord (as : List Value) (σ : xS) : Prop := as = [.ref 2] ∧ (True)
def fX2_readWord (as : List Value) (σ : xS) : Option Value × xS := match as with
  | [.ref 2] => (some (.int (rwV σ)), rwS σ)
  | _ => (none, σ)
theorem pX2_readWord_e {σ : xS} : pX2_readWord [.ref 2] σ = (True) := propext ⟨fun h => h.2, fun h => ⟨rfl, h⟩⟩
theorem fX2_readWord_e  {σ : xS} : fX2_readWord [.ref 2] σ = (some (.int (rwV σ)), rwS σ) := rfl
def calX2_readWord : List (Nat × xCall) := [(91, (true, 1, pX2_wordBy, fX2_wordBy)), (95, (false, 2, pX2_countAlike, fX2_countAlike)), (99, (false, 1, pWd, fSlen)), (104, (true, 2, pMax, fMax))]
theorem c_X2_readWord_91 : xlk calX2_readWord 91 = some (true, 1, pX2_wordBy, fX2_wordBy) := rfl
theorem c_X2_readWord_95 : xlk calX2_readWord 95 = some (false, 2, pX2_countAlike, fX2_countAlike) := rfl
theorem c_X2_readWord_99 : xlk calX2_readWord 99 = some (false, 1, pWd, fSlen) := rfl
theorem c_X2_readWord_104 : xlk calX2_readWord 104 = some (true, 2, pMax, fMax) := rfl
set_option maxHeartbeats 4000000 in
set_option maxRecDepth 100000 in
theorem mX2_readWord : xMet WX yX2_readWord cX2_readWord 5 (some .int) 6 pX2_readWord fX2_readWord := by
  refine xMet_of (fld := xlk fldX2) (cal := xlk calX2_readWord) (ks := xlk []) (gs := xlk []) (ro := fun _ => none) 0 (by decide) WX_nd rfl fldX2_ok xKs_nil xGs_nil (Or.inr rfl) (xcal_cons (xCk_S mX2_wordBy (by decide) (by decide) w_X2_91 ⟨by decide, by decide, by decide +kernel⟩) (xcal_cons (xCk_V mX2_countAlike 2 (by decide) (by decide) (by decide) rfl (fun as σ h _ => rX2_countAlike as σ h) w_X2_95 ⟨by decide, by decide, by decide +kernel⟩) (xcal_cons (xCk_W (n := 0) mJ0_length_8abf5 (by decide) (by decide) rfl pWd_r w_X2_99 ⟨by decide, by decide, by decide +kernel⟩) (xcal_cons (xCk_max (by decide) w_X2_104) xcal_nil)))) ?_ ?_
  · rintro av σ ⟨rfl, hpre⟩
    exact Nat.le_of_ble_eq_true rfl
  rintro av σ ⟨rfl, hp1⟩ Rt hR
  refine xfor0 4 (5) 60 20 (fun i => [some (.ref 2), some (.int (waM σ i)), some (.int (nI i)), wal i, wam σ i]) (fun i => σ) (fun i => ∀ j, j < i → waE σ j = false) (fun j hj => by omega) (fun i hi hH => ?_) ?_
  · simp only [xwp_2, xwp_0, xwp_1, xws_s, xdd_o, xld_0, xld_s, xs1_0, xs1_1, xs1_s, xs2_0, xs2_1, xs2_s, xlg_n, xlg_i, xlg_r, xlg_z, xlg_l, xf4_0, xf4_1, xf4_2, xf4_3, xgo_e, xcmp_eq, xcmp_ne, xcmp_lt, xcmp_ge, xcmp_gt, xcmp_le, xfg_0, xfg_1, xfg_2, xfg_3, xfg_4, xpop_0, xpop_s, xsw_n, xsw_c, xtb_n, xtb_c, xenp_n, xenp_i, xenp_r, xenp_z, xenp_l, xrep_0, xrep_s, Nat.reduceSub, true_and, and_true, cat_i, cat_r, Nat.reduceAdd, Nat.reduceLT, Nat.reduceLeDiff, Nat.reduceEqDiff, xnc, Int.reduceAdd, Int.reduceSub, Int.reduceNeg, Int.reduceLE, Int.reduceLT, Int.reduceToNat, ↓reduceIte, List.length_cons, List.length_nil, xlc0, xlc1, ite_10, i10, i01, i0_2, i0_3, i0_4, i0_6, i0_7, i0_8, i0_49, i0_10, or_true, true_or, or_false, false_or, not_false_eq_true, not_true_eq_false, xnt, xI_g, eq_self, xI_2, xJ_1, false_and, and_false, obT_t, obS_t, ob6_t, ob2_t, ob0_t, kT1_t, kT2_t, kT3_t, kT4_t, lT1, lT2, rT6, rT7, rT8, rT9, rT1i, rT2i, rS2, kSe_t, lSe, r0_0, r0_1, r0_2, r0_3, r0_4, r0_5, r0_6, r0_7, r0_8, r0_9, r1_i, r2_4, r2_5, r4_4, a1_t, a3_t, a5_t, a6_t, a7_t, a8_t, l1, l3, l5, l6, l7, l8, T1, T2, T3, T4, nI8, nI6, nI160, nI20, nI401, nI49, ob5_t, ob1_t, vp_tn, tn_def, lgc, dX2_readWord_0, st_iconst, dX2_readWord_1, st_istore_n, dX2_readWord_2, dX2_readWord_3, dX2_readWord_4, st_iload_n, dX2_readWord_5, dX2_readWord_6, st_if_icmp, dX2_readWord_9, dX2_readWord_10, st_invokestatic, dX2_readWord_13, st_astore_n, dX2_readWord_14, st_aload_n, dX2_readWord_15, dX2_readWord_16, st_invokevirtual, dX2_readWord_19, st_istore, dX2_readWord_21, st_iload, dX2_readWord_23, dX2_readWord_24, dX2_readWord_27, dX2_readWord_30, dX2_readWord_31, st_dup, dX2_readWord_32, st_getfield, fl_X2_9, dX2_readWord_35, dX2_readWord_37, st_iadd, dX2_readWord_38, st_putfield, dX2_readWord_41, dX2_readWord_42, st_ireturn, dX2_readWord_43, dX2_readWord_44, dX2_readWord_46, dX2_readWord_49, dX2_readWord_50, st_iinc, dX2_readWord_53, st_goto, dX2_readWord_56, dX2_readWord_57, dX2_readWord_58, dX2_readWord_61, dX2_readWord_62, dX2_readWord_63, dX2_readWord_66, dX2_readWord_67, c_X2_readWord_91, pX2_wordBy_e, fX2_wordBy_e, Option.toList_some, Option.toList_none, List.cons_append, List.nil_append, c_X2_readWord_95, pX2_countAlike_e, fX2_countAlike_e, c_X2_readWord_99, pWd_e, fSlen_e, c_X2_readWord_104, pMax_e, fMax_e, ofI_0, ofI_5, ofI_1, ofI_m1, wdK_r, hp1, wdK_r]
    have hc : (5 : Int32) ≤ nI i ↔ 5 ≤ i := nI_leI (a := 5) (by omega) (by omega)
    have e1 : nI i + 1 = nI (i + 1) := nI_1 i
    have e2 : wal (i + 1) = some (.ref (wdK (nI i))) := rfl
    have e3 : wam σ (i + 1) = some (.int (waV σ i)) := rfl
    have e4 : caV σ (wdK (nI i)) = waV σ i := rfl
    have e5 : waE σ i = decide (waV σ i = xln (wdK (nI i) - 910)) := rfl
    have e6 : (if waM σ i < waV σ i then waV σ i else waM σ i) = waM σ (i + 1) := rfl
    have cont : waE σ i = false → (∀ j, j < i + 1 → waE σ j = false) := fun h2 => xall_s hH h2
    have fin : i = 5 → Rt (some (.int (-1))) (xI σ 2 0 (σ.1 2 0 + waM σ i)) := fun h => by
      have e7 : rwN σ = 5 := xfs_no (fun j hj => hH j (by omega))
      rw [hR, fX2_readWord_e, rwV, rwS, e7, if_neg (by decide), if_neg (by decide), h]
      exact ⟨rfl, rfl⟩
    have stop : i < 5 → waE σ i = true → Rt (some (.int (nI i))) (xI σ 2 0 (σ.1 2 0 + waV σ i)) := fun h1 h2 => by
      have e7 : rwN σ = i := xfs_at h1 h2 hH
      rw [hR, fX2_readWord_e, rwV, rwS, e7, if_pos h1, if_pos h1]
      exact ⟨rfl, rfl⟩
    simp only [e4, e6]
    refine ⟨fun h => ?_, fun h => ?_⟩
    · rw [hc] at h
      exact fin (by omega)
    · have hn : i < 5 := by rw [hc] at h; omega
      rw [e1, e2, e3]
      grind
  · simp only [xwp_2, xwp_0, xwp_1, xws_s, xdd_o, xld_0, xld_s, xs1_0, xs1_1, xs1_s, xs2_0, xs2_1, xs2_s, xlg_n, xlg_i, xlg_r, xlg_z, xlg_l, xf4_0, xf4_1, xf4_2, xf4_3, xgo_e, xcmp_eq, xcmp_ne, xcmp_lt, xcmp_ge, xcmp_gt, xcmp_le, xfg_0, xfg_1, xfg_2, xfg_3, xfg_4, xpop_0, xpop_s, xsw_n, xsw_c, xtb_n, xtb_c, xenp_n, xenp_i, xenp_r, xenp_z, xenp_l, xrep_0, xrep_s, Nat.reduceSub, true_and, and_true, cat_i, cat_r, Nat.reduceAdd, Nat.reduceLT, Nat.reduceLeDiff, Nat.reduceEqDiff, xnc, Int.reduceAdd, Int.reduceSub, Int.reduceNeg, Int.reduceLE, Int.reduceLT, Int.reduceToNat, ↓reduceIte, List.length_cons, List.length_nil, xlc0, xlc1, ite_10, i10, i01, i0_2, i0_3, i0_4, i0_6, i0_7, i0_8, i0_49, i0_10, or_true, true_or, or_false, false_or, not_false_eq_true, not_true_eq_false, xnt, xI_g, eq_self, xI_2, xJ_1, false_and, and_false, obT_t, obS_t, ob6_t, ob2_t, ob0_t, kT1_t, kT2_t, kT3_t, kT4_t, lT1, lT2, rT6, rT7, rT8, rT9, rT1i, rT2i, rS2, kSe_t, lSe, r0_0, r0_1, r0_2, r0_3, r0_4, r0_5, r0_6, r0_7, r0_8, r0_9, r1_i, r2_4, r2_5, r4_4, a1_t, a3_t, a5_t, a6_t, a7_t, a8_t, l1, l3, l5, l6, l7, l8, T1, T2, T3, T4, nI8, nI6, nI160, nI20, nI401, nI49, ob5_t, ob1_t, vp_tn, tn_def, lgc, dX2_readWord_0, st_iconst, dX2_readWord_1, st_istore_n, dX2_readWord_2, dX2_readWord_3, dX2_readWord_4, st_iload_n, dX2_readWord_5, dX2_readWord_6, st_if_icmp, dX2_readWord_9, dX2_readWord_10, st_invokestatic, dX2_readWord_13, st_astore_n, dX2_readWord_14, st_aload_n, dX2_readWord_15, dX2_readWord_16, st_invokevirtual, dX2_readWord_19, st_istore, dX2_readWord_21, st_iload, dX2_readWord_23, dX2_readWord_24, dX2_readWord_27, dX2_readWord_30, dX2_readWord_31, st_dup, dX2_readWord_32, st_getfield, fl_X2_9, dX2_readWord_35, dX2_readWord_37, st_iadd, dX2_readWord_38, st_putfield, dX2_readWord_41, dX2_readWord_42, st_ireturn, dX2_readWord_43, dX2_readWord_44, dX2_readWord_46, dX2_readWord_49, dX2_readWord_50, st_iinc, dX2_readWord_53, st_goto, dX2_readWord_56, dX2_readWord_57, dX2_readWord_58, dX2_readWord_61, dX2_readWord_62, dX2_readWord_63, dX2_readWord_66, dX2_readWord_67, c_X2_readWord_91, pX2_wordBy_e, fX2_wordBy_e, Option.toList_some, Option.toList_none, List.cons_append, List.nil_append, c_X2_readWord_95, pX2_countAlike_e, fX2_countAlike_e, c_X2_readWord_99, pWd_e, fSlen_e, c_X2_readWord_104, pMax_e, fMax_e, ofI_0, ofI_5, ofI_1, ofI_m1, wdK_r, hp1]
    first | exact rfl | exact ⟨rfl, rfl⟩ | trivial
theorem rX2_readWord : ∀ as σ, pX2_readWord as σ → ∃ K as', as = .ref K :: as' ∧ xob WX K 2 := by
  rintro as σ ⟨rfl, hpre⟩
  exact ⟨_, _, rfl, by first | exact hpre | exact hpre.1 | exact obT hpre | exact obT hpre.1 | exact obS hpre | exact obS hpre.1 | exact obM | exact ob6 | exact ob2 | exact ob0⟩
/-- a gait's steps -/
def gpS (σ : xS) : Nat → xS
  | 0 => σ
  | i + 1 => xI (gpS σ i) 2 0 ((gpS σ i).1 2 0 + 1)
def gpT (σ : xS) : Nat → Int32
  | 0 => 0
  | i + 1 => gpT σ i ||| xshl (stV (gpS σ i)) (2 * nI i)
def gpE (σ : xS) (i : Nat) : Bool := decide (stV (gpS σ i) = -1)
def gpN (σ : xS) : Nat := xfs (gpE σ) 8
theorem gpS_k {σ : xS} : ∀ {i : Nat}, kp2 σ (gpS σ i)
  | 0 => kp2_r
  | i + 1 => kp2_t gpS_k (kp2_i (by decide))
theorem gpS_B {σ : xS} {i b : Nat} : (gpS σ i).1 400 b = σ.1 400 b := gpS_k.1 400 b (by decide)
def adG (σ : xS) (B : Nat) (n a s : Int32) : xS := xI (xI (xI (xI σ (B + 10 + tn (σ.1 B 1)) 0 n) (B + 10 + tn (σ.1 B 1)) 1 a) (B + 10 + tn (σ.1 B 1)) 2 s) B 1 (σ.1 B 1 + 1)
def rg1 (σ : xS) : xS := rsS (rnS σ 0 2) 32
def rgV (σ : xS) : Int32 := if rnV σ 0 2 = -1 then 0 else if rsV (rnS σ 0 2) 32 = 0 then 0 else if gpN (rg1 σ) = 0 then 0 else 1
def rgS (σ : xS) : xS := if rnV σ 0 2 = -1 then rnS σ 0 2 else if rsV (rnS σ 0 2) 32 = 0 then rg1 σ else if gpN (rg1 σ) = 0 then rg1 σ else adG (gpS (rg1 σ) (gpN (rg1 σ))) 400 (nI (gpN (rg1 σ))) (rnV σ 0 2) (gpT (rg1 σ) (gpN (rg1 σ)))
theorem rg1_B {σ : xS} {b : Nat} : (rg1 σ).1 400 b = σ.1 400 b := by rw [rg1, rsS_B, rnS_B]
theorem rg1_e {σ : xS} : rsS (rnS σ 0 2) 32 = rg1 σ := rfl
def pX2_readGait (as : List Value) (σ : xS) : Prop := as = [.ref 2] ∧ ((0 ≤ σ.1 400 1) ∧ (σ.1 400 1 < 8))
def fX2_readGait (as : List Value) (σ : xS) : Option Value × xS := match as with
  | [.ref 2] => (some (.int (rgV σ)), rgS σ)
  | _ => (none, σ)
theorem pX2_readGait_e {σ : xS} : pX2_readGait [.ref 2] σ = ((0 ≤ σ.1 400 1) ∧ (σ.1 400 1 < 8)) := propext ⟨fun h => h.2, fun h => ⟨rfl, h⟩⟩
theorem fX2_readGait_e  {σ : xS} : fX2_readGait [.ref 2] σ = (some (.int (rgV σ)), rgS σ) := rfl
def calX2_readGait : List (Nat × xCall) := [(123, (false, 3, pX2_readNumber, fX2_readNumber)), (71, (false, 2, pX2_readSign, fX2_readSign)), (126, (false, 1, pX2_stepHere, fX2_stepHere)), (129, (true, 3, pX1_withStep, fX1_withStep)), (135, (false, 4, pX4_addGait, fX4_addGait))]
theorem c_X2_readGait_123 : xlk calX2_readGait 123 = some (false, 3, pX2_readNumber, fX2_readNumber) := rfl
theorem c_X2_readGait_71 : xlk calX2_readGait 71 = some (false, 2, pX2_readSign, fX2_readSign) := rfl
theorem c_X2_readGait_126 : xlk calX2_readGait 126 = some (false, 1, pX2_stepHere, fX2_stepHere) := rfl
theorem c_X2_readGait_129 : xlk calX2_readGait 129 = some (true, 3, pX1_withStep, fX1_withStep) := rfl
theorem c_X2_readGait_135 : xlk calX2_readGait 135 = some (false, 4, pX4_addGait, fX4_addGait) := rfl
set_option maxHeartbeats 4000000 in
set_option maxRecDepth 100000 in
theorem mX2_readGait : xMet WX yX2_readGait cX2_readGait 4 (some .boolean) 5 pX2_readGait fX2_readGait := by
  refine xMet_of (fld := xlk fldX2) (cal := xlk calX2_readGait) (ks := xlk []) (gs := xlk []) (ro := fun _ => none) 1 (by decide) WX_nd rfl fldX2_ok xKs_nil xGs_nil (Or.inr rfl) (xcal_cons (xCk_V mX2_readNumber 2 (by decide) (by decide) (by decide) rfl (fun as σ h _ => rX2_readNumber as σ h) w_X2_123 ⟨by decide, by decide, by decide +kernel⟩) (xcal_cons (xCk_V mX2_readSign 2 (by decide) (by decide) (by decide) rfl (fun as σ h _ => rX2_readSign as σ h) w_X2_71 ⟨by decide, by decide, by decide +kernel⟩) (xcal_cons (xCk_V mX2_stepHere 2 (by decide) (by decide) (by decide) rfl (fun as σ h _ => rX2_stepHere as σ h) w_X2_126 ⟨by decide, by decide, by decide +kernel⟩) (xcal_cons (xCk_S mX1_withStep (by decide) (by decide) w_X2_129 ⟨by decide, by decide, by decide +kernel⟩) (xcal_cons (xCk_V mX4_addGait 4 (by decide) (by decide) (by decide) rfl (fun as σ h _ => rX4_addGait as σ h) w_X2_135 ⟨by decide, by decide, by decide +kernel⟩) xcal_nil))))) ?_ ?_
  · rintro av σ ⟨rfl, hpre⟩
    exact Nat.le_of_ble_eq_true rfl
  rintro av σ ⟨rfl, ⟨hp1, hp2⟩⟩ Rt hR
  have zB : ∀ i b, (gpS (rg1 σ) i).1 400 b = σ.1 400 b := fun i b => by rw [gpS_B, rg1_B]
  refine xto 27 (fun L st s => (¬ rnV σ 0 2 = -1 ∧ ¬ rsV (rnS σ 0 2) 32 = 0) ∧ L = [some (.ref 2), some (.int (rnV σ 0 2)), some (.int 0), some (.int 0)] ∧ st = [] ∧ s = rg1 σ) 20 ?_ ?_
  · rintro L st s ⟨⟨ha, hb⟩, rfl, rfl, rfl⟩
    refine xfor 27 8 60 (fun i => [some (.ref 2), some (.int (rnV σ 0 2)), some (.int (gpT (rg1 σ) i)), some (.int (nI i))]) (fun i => gpS (rg1 σ) i) (fun i => ∀ j, j < i → gpE (rg1 σ) j = false) (fun i hi hH => ?_) 0 (Nat.zero_le 8) (fun j hj => by omega)
    simp only [xwp_2, xwp_0, xwp_1, xws_s, xdd_o, xld_0, xld_s, xs1_0, xs1_1, xs1_s, xs2_0, xs2_1, xs2_s, xlg_n, xlg_i, xlg_r, xlg_z, xlg_l, xf4_0, xf4_1, xf4_2, xf4_3, xgo_e, xcmp_eq, xcmp_ne, xcmp_lt, xcmp_ge, xcmp_gt, xcmp_le, xfg_0, xfg_1, xfg_2, xfg_3, xfg_4, xpop_0, xpop_s, xsw_n, xsw_c, xtb_n, xtb_c, xenp_n, xenp_i, xenp_r, xenp_z, xenp_l, xrep_0, xrep_s, Nat.reduceSub, true_and, and_true, cat_i, cat_r, Nat.reduceAdd, Nat.reduceLT, Nat.reduceLeDiff, Nat.reduceEqDiff, xnc, Int.reduceAdd, Int.reduceSub, Int.reduceNeg, Int.reduceLE, Int.reduceLT, Int.reduceToNat, ↓reduceIte, List.length_cons, List.length_nil, xlc0, xlc1, ite_10, i10, i01, i0_2, i0_3, i0_4, i0_6, i0_7, i0_8, i0_49, i0_10, or_true, true_or, or_false, false_or, not_false_eq_true, not_true_eq_false, xnt, xI_g, eq_self, xI_2, xJ_1, false_and, and_false, obT_t, obS_t, ob6_t, ob2_t, ob0_t, kT1_t, kT2_t, kT3_t, kT4_t, lT1, lT2, rT6, rT7, rT8, rT9, rT1i, rT2i, rS2, kSe_t, lSe, r0_0, r0_1, r0_2, r0_3, r0_4, r0_5, r0_6, r0_7, r0_8, r0_9, r1_i, r2_4, r2_5, r4_4, a1_t, a3_t, a5_t, a6_t, a7_t, a8_t, l1, l3, l5, l6, l7, l8, T1, T2, T3, T4, nI8, nI6, nI160, nI20, nI401, nI49, ob5_t, ob1_t, vp_tn, tn_def, lgc, dX2_readGait_0, st_aload_n, dX2_readGait_1, st_iconst, dX2_readGait_2, dX2_readGait_3, st_invokevirtual, dX2_readGait_6, st_istore_n, dX2_readGait_7, st_iload_n, dX2_readGait_8, dX2_readGait_9, st_if_icmp, dX2_readGait_12, dX2_readGait_13, st_bipush, dX2_readGait_15, dX2_readGait_18, st_ifCond, dX2_readGait_21, dX2_readGait_22, st_ireturn, dX2_readGait_23, dX2_readGait_24, dX2_readGait_25, dX2_readGait_26, dX2_readGait_27, dX2_readGait_28, dX2_readGait_30, dX2_readGait_33, dX2_readGait_34, dX2_readGait_37, dX2_readGait_38, dX2_readGait_41, dX2_readGait_42, dX2_readGait_43, dX2_readGait_44, dX2_readGait_47, st_invokestatic, dX2_readGait_50, dX2_readGait_51, st_iinc, dX2_readGait_54, dX2_readGait_55, st_dup, dX2_readGait_56, st_getfield, fl_X2_9, dX2_readGait_59, dX2_readGait_60, st_iadd, dX2_readGait_61, st_putfield, dX2_readGait_64, st_goto, dX2_readGait_67, dX2_readGait_68, dX2_readGait_71, dX2_readGait_72, dX2_readGait_73, dX2_readGait_74, fl_X2_32, dX2_readGait_77, dX2_readGait_78, dX2_readGait_79, dX2_readGait_80, dX2_readGait_83, st_pop, dX2_readGait_84, dX2_readGait_85, c_X2_readGait_123, pX2_readNumber_e, fX2_readNumber_e, Option.toList_some, Option.toList_none, List.cons_append, List.nil_append, c_X2_readGait_71, pX2_readSign_e, fX2_readSign_e, c_X2_readGait_126, pX2_stepHere_e, fX2_stepHere_e, c_X2_readGait_129, pX1_withStep_e, fX1_withStep_e, c_X2_readGait_135, pX4_addGait_e, fX4_addGait_e, ofI_0, ofI_2, ofI_m1, ofI_32, ofI_8, ofI_1, hp1, hp2, zB, T4]
    have hc : (8 : Int32) ≤ nI i ↔ 8 ≤ i := nI_leI (a := 8) (by omega) (by omega)
    have e1 : nI i + 1 = nI (i + 1) := nI_1 i
    have e2 : gpT (rg1 σ) i ||| xshl (stV (gpS (rg1 σ) i)) (2 * nI i) = gpT (rg1 σ) (i + 1) := rfl
    have e3 : xI (gpS (rg1 σ) i) 2 0 ((gpS (rg1 σ) i).1 2 0 + 1) = gpS (rg1 σ) (i + 1) := rfl
    have e5 : gpE (rg1 σ) i = decide (stV (gpS (rg1 σ) i) = -1) := rfl
    have e6 : ∀ s, adG (gpS (rg1 σ) i) 400 (nI i) (rnV σ 0 2) s = xI (xI (xI (xI (gpS (rg1 σ) i) (400 + 10 + tn (σ.1 400 1)) 0 (nI i)) (400 + 10 + tn (σ.1 400 1)) 1 (rnV σ 0 2)) (400 + 10 + tn (σ.1 400 1)) 2 s) 400 1 (σ.1 400 1 + 1) := fun s => by
      rw [adG, zB]
    have e0 : (nI i = 0) = (i = 0) := by
      have : ∀ i, i ≤ 8 → ((nI i = 0) = (i = 0)) := by decide +kernel
      exact this i hi
    have cont : gpE (rg1 σ) i = false → (∀ j, j < i + 1 → gpE (rg1 σ) j = false) := fun h2 => xall_s hH h2
    have fin : gpN (rg1 σ) = i → (i = 0 → Rt (some (.int 0)) (gpS (rg1 σ) i)) ∧ (¬ i = 0 → Rt (some (.int 1)) (adG (gpS (rg1 σ) i) 400 (nI i) (rnV σ 0 2) (gpT (rg1 σ) i))) := fun h => by
      rw [hR, hR, fX2_readGait_e, rgV, rgS, if_neg ha, if_neg hb, if_neg ha, if_neg hb, h]
      refine ⟨fun q => ?_, fun q => ?_⟩
      · rw [if_pos q, if_pos q, q]
        exact ⟨rfl, rfl⟩
      · rw [if_neg q, if_neg q]
        exact ⟨rfl, rfl⟩
    have f8 : i = 8 → gpN (rg1 σ) = i := fun h => by
      rw [h]
      exact xfs_no (fun j hj => hH j (by omega))
    have fs : i < 8 → gpE (rg1 σ) i = true → gpN (rg1 σ) = i := fun h1 h2 => xfs_at h1 h2 hH
    simp only [e1, e2, e3, e0, ← e6, ha, hb]
    refine ⟨fun h => ?_, fun h => ?_⟩
    · rw [hc] at h
      have h8 : i = 8 := by omega
      have q := fin (f8 h8)
      grind
    · have hn : i < 8 := by rw [hc] at h; omega
      grind
  · simp only [xwp_2, xwp_0, xwp_1, xws_s, xdd_o, xld_0, xld_s, xs1_0, xs1_1, xs1_s, xs2_0, xs2_1, xs2_s, xlg_n, xlg_i, xlg_r, xlg_z, xlg_l, xf4_0, xf4_1, xf4_2, xf4_3, xgo_e, xcmp_eq, xcmp_ne, xcmp_lt, xcmp_ge, xcmp_gt, xcmp_le, xfg_0, xfg_1, xfg_2, xfg_3, xfg_4, xpop_0, xpop_s, xsw_n, xsw_c, xtb_n, xtb_c, xenp_n, xenp_i, xenp_r, xenp_z, xenp_l, xrep_0, xrep_s, Nat.reduceSub, true_and, and_true, cat_i, cat_r, Nat.reduceAdd, Nat.reduceLT, Nat.reduceLeDiff, Nat.reduceEqDiff, xnc, Int.reduceAdd, Int.reduceSub, Int.reduceNeg, Int.reduceLE, Int.reduceLT, Int.reduceToNat, ↓reduceIte, List.length_cons, List.length_nil, xlc0, xlc1, ite_10, i10, i01, i0_2, i0_3, i0_4, i0_6, i0_7, i0_8, i0_49, i0_10, or_true, true_or, or_false, false_or, not_false_eq_true, not_true_eq_false, xnt, xI_g, eq_self, xI_2, xJ_1, false_and, and_false, obT_t, obS_t, ob6_t, ob2_t, ob0_t, kT1_t, kT2_t, kT3_t, kT4_t, lT1, lT2, rT6, rT7, rT8, rT9, rT1i, rT2i, rS2, kSe_t, lSe, r0_0, r0_1, r0_2, r0_3, r0_4, r0_5, r0_6, r0_7, r0_8, r0_9, r1_i, r2_4, r2_5, r4_4, a1_t, a3_t, a5_t, a6_t, a7_t, a8_t, l1, l3, l5, l6, l7, l8, T1, T2, T3, T4, nI8, nI6, nI160, nI20, nI401, nI49, ob5_t, ob1_t, vp_tn, tn_def, lgc, dX2_readGait_0, st_aload_n, dX2_readGait_1, st_iconst, dX2_readGait_2, dX2_readGait_3, st_invokevirtual, dX2_readGait_6, st_istore_n, dX2_readGait_7, st_iload_n, dX2_readGait_8, dX2_readGait_9, st_if_icmp, dX2_readGait_12, dX2_readGait_13, st_bipush, dX2_readGait_15, dX2_readGait_18, st_ifCond, dX2_readGait_21, dX2_readGait_22, st_ireturn, dX2_readGait_23, dX2_readGait_24, dX2_readGait_25, dX2_readGait_26, dX2_readGait_27, dX2_readGait_28, dX2_readGait_30, dX2_readGait_33, dX2_readGait_34, dX2_readGait_37, dX2_readGait_38, dX2_readGait_41, dX2_readGait_42, dX2_readGait_43, dX2_readGait_44, dX2_readGait_47, st_invokestatic, dX2_readGait_50, dX2_readGait_51, st_iinc, dX2_readGait_54, dX2_readGait_55, st_dup, dX2_readGait_56, st_getfield, fl_X2_9, dX2_readGait_59, dX2_readGait_60, st_iadd, dX2_readGait_61, st_putfield, dX2_readGait_64, st_goto, dX2_readGait_67, dX2_readGait_68, dX2_readGait_71, dX2_readGait_72, dX2_readGait_73, dX2_readGait_74, fl_X2_32, dX2_readGait_77, dX2_readGait_78, dX2_readGait_79, dX2_readGait_80, dX2_readGait_83, st_pop, dX2_readGait_84, dX2_readGait_85, c_X2_readGait_123, pX2_readNumber_e, fX2_readNumber_e, Option.toList_some, Option.toList_none, List.cons_append, List.nil_append, c_X2_readGait_71, pX2_readSign_e, fX2_readSign_e, c_X2_readGait_126, pX2_stepHere_e, fX2_stepHere_e, c_X2_readGait_129, pX1_withStep_e, fX1_withStep_e, c_X2_readGait_135, pX4_addGait_e, fX4_addGait_e, ofI_0, ofI_2, ofI_m1, ofI_32, ofI_8, ofI_1, hp1, hp2, rg1_e]
    simp only [hR, fX2_readGait_e, rgV, rgS]
    grind
theorem rX2_readGait : ∀ as σ, pX2_readGait as σ → ∃ K as', as = .ref K :: as' ∧ xob WX K 2 := by
  rintro as σ ⟨rfl, hpre⟩
  exact ⟨_, _, rfl, by first | exact hpre | exact hpre.1 | exact obT hpre | exact obT hpre.1 | exact obS hpre | exact obS hpre.1 | exact obM | exact ob6 | exact ob2 | exact ob0⟩
