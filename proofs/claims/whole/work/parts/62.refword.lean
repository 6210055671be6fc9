/-! the words, as the reference looks for them -/
def wdC (j : Nat) : Int32 := [103, 97, 105, 116, 32, 0, 119, 97, 108, 108, 32, 0, 111, 112, 101, 110, 32, 0, 119, 97, 108, 107, 101, 114, 32, 0, 98, 101, 97, 116, 32, 0].getD j 0
def WD (σ : xS) : Prop := ∀ j, j < 32 → σ.1 29 j = wdC j
def pw (w : Nat) : Nat := [0, 6, 12, 18, 26, 32].getD w 32
def wl (w : Nat) : Nat := [5, 5, 5, 7, 5].getD w 5
def lettA (σ : xS) (q : Int32) : Int32 := (σ.2 27 (tn (σ.1 0 32 + q))).toInt32
theorem lettA_f {σ : xS} {q : Int32} : (σ.2 27 (tn (σ.1 0 32 + q))).toInt32 = lettA σ q := rfl
def wmS (σ : xS) (w k : Nat) : Bool := decide (wdC (pw w + k) = 0 ∨ ¬ σ.1 0 33 + nI k < σ.1 0 34 ∨ ¬ lettA σ (σ.1 0 33 + nI k) = wdC (pw w + k))
def wmN (σ : xS) (w : Nat) : Nat := xfs (wmS σ w) 8
def wdE (σ : xS) (w : Nat) : Bool := decide (wmN σ w = wl w)
def faM2 (σ : xS) : Nat → Int32
  | 0 => σ.1 0 33
  | w + 1 => if faM2 σ w < σ.1 0 33 + nI (wmN σ w) then σ.1 0 33 + nI (wmN σ w) else faM2 σ w
theorem faM2_s {σ : xS} {w : Nat} : faM2 σ (w + 1) = if faM2 σ w < σ.1 0 33 + nI (wmN σ w) then σ.1 0 33 + nI (wmN σ w) else faM2 σ w := rfl
theorem faM2_0 {σ : xS} : faM2 σ 0 = σ.1 0 33 := rfl
def wrdF (σ : xS) (f : Nat) : Int32 × xS := if f < 5 then (nI f, xI σ 0 33 (σ.1 0 33 + nI (wl f))) else (-1, xI σ 0 37 (faM2 σ 5))
def wrdM (σ : xS) : Int32 × xS := wrdF σ (xfs (wdE σ) 5)
theorem wdF : ∀ w, w < 5 → (pw w + wl w + 1 = pw (w + 1) ∧ pw w + wl w < 32 ∧ wl w < 8 ∧ wdC (pw w + wl w) = 0) ∧ (∀ k, k < wl w → ¬ wdC (pw w + k) = 0) := by decide +kernel
theorem at_k {a e : Int32} {k : Nat} (h0 : 0 ≤ a) (h1 : a ≤ e) (h2 : e ≤ 160) (hk : k < 100) : 0 ≤ a + nI k := by
  have a0 := t_le.mp h0
  have a1 := t_le.mp h1
  have a2 := t_le.mp h2
  rw [t_0] at a0
  rw [t_160] at a2
  rw [t_le, t_add (by rw [t_nI (by omega)]; omega) (by rw [t_nI (by omega)]; omega), t_nI (by omega), t_0]
  omega
def zcC (c : Nat) : Nat := xcnt (fun j => decide (wdC j = 0)) c
theorem zcF : ∀ w, w < 5 → ∀ c, c < 33 → c ≤ pw w → (w ≤ zcC c ↔ c = pw w) ∧ zcC c ≤ 5 := by decide +kernel
theorem zcS : ∀ c, c < 32 → zcC (c + 1) = zcC c + (if wdC c = 0 then 1 else 0) := by decide +kernel
def waS (σ : xS) (w k : Nat) : Bool := decide (wdC (pw w + k) ≤ 32 ∨ ¬ σ.1 0 33 + nI k < σ.1 0 34 ∨ ¬ lettA σ (σ.1 0 33 + nI k) = wdC (pw w + k))
def waN (σ : xS) (w : Nat) : Nat := xfs (waS σ w) 8
def waB (σ : xS) (w : Nat) : Bool := decide (waN σ w = wl w - 1)
theorem waF : ∀ w, w < 5 → (pw w + wl w < 33 ∧ 1 ≤ wl w ∧ wl w < 8 ∧ wdC (pw w + (wl w - 1)) ≤ 32) ∧ (∀ k, k < wl w - 1 → ¬ wdC (pw w + k) ≤ 32) := by decide +kernel
def pX7_word (as : List Value) (σ : xS) : Prop := as = [.ref 0] ∧ ((rdP σ) ∧ (WD σ))
def fX7_word (as : List Value) (σ : xS) : Option Value × xS := match as with
  | [.ref 0] => (some (.int (wrdM σ).1), (wrdM σ).2)
  | _ => (none, σ)
theorem pX7_word_e {σ : xS} : pX7_word [.ref 0] σ = ((rdP σ) ∧ (WD σ)) := propext ⟨fun h => h.2, fun h => ⟨rfl, h⟩⟩
theorem fX7_word_e  {σ : xS} : fX7_word [.ref 0] σ = (some (.int (wrdM σ).1), (wrdM σ).2) := rfl
def calX7_word : List (Nat × xCall) := []
set_option maxHeartbeats 1000000 in
set_option maxRecDepth 100000 in
theorem mX7_word : xMet WM yX7_word cX7_word 6 (some .int) 1 pX7_word fX7_word := by
  refine xMet_of (fld := xlk fldX7) (cal := xlk calX7_word) (ks := xlk []) (gs := xlk []) (ro := fun _ => none) 0 (by decide) WM_nd rfl fldX7_ok xKs_nil xGs_nil (Or.inr rfl) xcal_nil ?_ ?_
  · rintro av σ ⟨rfl, hpre⟩
    exact Nat.le_of_ble_eq_true rfl
  rintro av σ ⟨rfl, ⟨hp1, hp2⟩⟩ Rt hR
  have hR2 := hR2_g (Rt := Rt) (F := wrdM σ) (fun r s' => by rw [hR, fX7_word_e])
  clear hR
  have h9 : ∀ w, w ≤ 5 → (∀ j, j < w → wdE σ j = false) → xGo WM 6 (xlk fldX7) (xlk calX7_word) (xlk []) (xlk []) (fun _ => none) 0 cX7_word Rt 9 [some (.ref 0), some (.int (nI (pw w))), some (.int (faM2 σ w)), some (.int (nI w)), none, none] [] (σ) := by
    refine xcount (5) (fun w => (∀ j, j < w → wdE σ j = false) → xGo WM 6 (xlk fldX7) (xlk calX7_word) (xlk []) (xlk []) (fun _ => none) 0 cX7_word Rt 9 [some (.ref 0), some (.int (nI (pw w))), some (.int (faM2 σ w)), some (.int (nI w)), none, none] [] (σ)) (fun w hw ih hH => ?_)
    have hcw : (5 : Int32) ≤ nI w ↔ 5 ≤ w := nI_leI (a := 5) (by omega) (by omega)
    have e0w : 0 ≤ nI w := nI_pos' (by omega)
    have e1w : nI w + 1 = nI (w + 1) := nI_1 w
    have e2w : tn (nI w) = w := tn_nI (by omega)
    have h23 : w < 5 → xGo WM 6 (xlk fldX7) (xlk calX7_word) (xlk []) (xlk []) (fun _ => none) 0 cX7_word Rt 23 [some (.ref 0), some (.int (nI (pw w))), some (.int (faM2 σ w)), some (.int (nI w)), some (.int (σ.1 0 33 + nI 0)), some (.int (nI (pw w + 0)))] [] σ := fun hw5 => by
      obtain ⟨hW1, hW2⟩ := wdF w hw5
      have hw8 := hW1.2.2.1
      have hw32 := hW1.2.1
      have h74 : ∀ k, k ≤ wl w → wmS σ w k = true → (∀ j, j < k → wmS σ w j = false) → xGo WM 6 (xlk fldX7) (xlk calX7_word) (xlk []) (xlk []) (fun _ => none) 0 cX7_word Rt 74 [some (.ref 0), some (.int (nI (pw w))), some (.int (faM2 σ w)), some (.int (nI w)), some (.int (σ.1 0 33 + nI k)), some (.int (nI (pw w + k)))] [] σ := fun k hk hst hK => by
        have hkN : wmN σ w = k := xfs_at (by omega) hst hK
        have hwdk : σ.1 29 (pw w + k) = wdC (pw w + k) := hp2 _ (by omega)
        have k0 : 0 ≤ nI (pw w + k) := nI_pos' (by omega)
        have k2 : tn (nI (pw w + k)) = pw w + k := tn_nI (by omega)
        have hk32 : pw w + k < 32 := by omega
        have h105 : wdE σ w = false → xGo WM 6 (xlk fldX7) (xlk calX7_word) (xlk []) (xlk []) (fun _ => none) 0 cX7_word Rt 105 [some (.ref 0), some (.int (nI (pw w + 0))), some (.int (faM2 σ (w + 1))), some (.int (nI w)), none, none] [] σ := fun hE => by
          have ih9 := ih hw5 (xall_s hH hE)
          have h105i : ∀ j, j ≤ wl w → xGo WM 6 (xlk fldX7) (xlk calX7_word) (xlk []) (xlk []) (fun _ => none) 0 cX7_word Rt 105 [some (.ref 0), some (.int (nI (pw w + j))), some (.int (faM2 σ (w + 1))), some (.int (nI w)), none, none] [] (σ) := by
            refine xcount (wl w) (fun j => xGo WM 6 (xlk fldX7) (xlk calX7_word) (xlk []) (xlk []) (fun _ => none) 0 cX7_word Rt 105 [some (.ref 0), some (.int (nI (pw w + j))), some (.int (faM2 σ (w + 1))), some (.int (nI w)), none, none] [] (σ)) (fun j hj ihj => ?_)
            have hwd : σ.1 29 (pw w + j) = wdC (pw w + j) := hp2 _ (by omega)
            have p0 : 0 ≤ nI (pw w + j) := nI_pos' (by omega)
            have p1 : nI (pw w + j) + 1 = nI (pw w + j + 1) := nI_1 _
            have p2 : tn (nI (pw w + j)) = pw w + j := tn_nI (by omega)
            have pe1 : pw w + (j + 1) = pw w + j + 1 := rfl
            refine xtoCs [(105, xPc (j < wl w) [some (.ref 0), some (.int (nI (pw w + (j + 1)))), some (.int (faM2 σ (w + 1))), some (.int (nI w)), none, none] (σ)), (9, xPc (True) [some (.ref 0), some (.int (nI (pw (w + 1)))), some (.int (faM2 σ (w + 1))), some (.int (nI (w + 1))), none, none] (σ))] (xcs_cons (ihj) (xcs_cons (fun _ => ih9) xcs_nil)) 16 (fun cf hcf => ?_)
            have k105 : cf 105 = some (xPc (j < wl w) [some (.ref 0), some (.int (nI (pw w + (j + 1)))), some (.int (faM2 σ (w + 1))), some (.int (nI w)), none, none] (σ)) := (hcf 105).trans rfl
            have k9 : cf 9 = some (xPc (True) [some (.ref 0), some (.int (nI (pw (w + 1)))), some (.int (faM2 σ (w + 1))), some (.int (nI (w + 1))), none, none] (σ)) := (hcf 9).trans rfl
            have kn : ∀ pc, ¬ pc = 105 → ¬ pc = 9 → cf pc = none := fun pc h0 h1 => by rw [hcf, xlk_c, if_neg h0, xlk_c, if_neg h1, xlk_n]
            clear hcf
            simp (config := {maxSteps := 4000000, implicitDefEqProofs := false}) only [xwp_2, xwp_0, xwp_1, xws_s, xdd_o, xld_0, xld_s, xs1_0, xs1_1, xs1_s, xs2_0, xs2_1, xs2_s, xlg_n, xlg_i, xlg_r, xlg_z, xlg_l, xf4_0, xf4_1, xf4_2, xf4_3, xgo_e, xcmp_eq, xcmp_ne, xcmp_lt, xcmp_ge, xcmp_gt, xcmp_le, xfg_0, xfg_1, xfg_2, xfg_3, xfg_4, xpop_0, xpop_s, xsw_n, xsw_c, xtb_n, xtb_c, xenp_n, xenp_i, xenp_r, xenp_z, xenp_l, xrep_0, xrep_s, Nat.reduceSub, true_and, and_true, cat_i, cat_r, Nat.reduceAdd, Nat.reduceLT, Nat.reduceLeDiff, Nat.reduceEqDiff, xnc, Int.reduceAdd, Int.reduceSub, Int.reduceNeg, Int.reduceLE, Int.reduceLT, Int.reduceToNat, ↓reduceIte, List.length_cons, List.length_nil, xlc0, xlc1, ite_10, i10, i01, i0_2, i0_3, i0_4, i0_6, i0_7, i0_8, i0_49, i0_10, or_true, true_or, or_false, false_or, not_false_eq_true, not_true_eq_false, xnt, xI_g, eq_self, xI_2, xJ_1, false_and, and_false, obM_t, rMi, vp_tn, tn_def, lgc, nI8, nI6, nI160, nI20, nI401, nI49, aM_6, aM_7, aM_8, aM_9, aM_10, aM_11, aM_12, aM_13, aM_14, aM_15, aM_16, aM_17, aM_18, aM_19, aM_20, aM_21, aM_22, aM_23, aM_24, aM_25, aM_26, aM_27, aM_28, aM_29, aM_30, aM_31, aM_38, aM_39, aM_40, aM_41, aM_42, aM_43, aM_44, aM_45, aM_46, aM_47, lM_6, lM_7, lM_8, lM_9, lM_10, lM_11, lM_12, lM_13, lM_14, lM_15, lM_16, lM_17, lM_18, lM_19, lM_20, lM_21, lM_22, lM_23, lM_24, lM_25, lM_26, lM_27, lM_28, lM_29, lM_30, lM_31, lM_38, lM_39, lM_40, lM_41, lM_42, lM_43, lM_44, lM_45, lM_46, lM_47, dX7_word_0, st_iconst, dX7_word_1, st_istore_n, dX7_word_2, st_aload_n, dX7_word_3, st_getfield, fl_X7_183, dX7_word_6, dX7_word_7, dX7_word_8, dX7_word_9, st_iload_n, dX7_word_10, dX7_word_11, st_if_icmp, dX7_word_14, dX7_word_15, dX7_word_18, st_istore, dX7_word_20, dX7_word_21, dX7_word_23, dX7_word_24, fl_X7_87, dX7_word_27, st_iload, dX7_word_29, st_iaload, dX7_word_30, st_ifCond, dX7_word_33, dX7_word_35, dX7_word_36, fl_X7_186, dX7_word_39, dX7_word_42, dX7_word_43, fl_X7_80, dX7_word_46, dX7_word_47, fl_X7_189, dX7_word_50, dX7_word_52, st_iadd, dX7_word_53, st_laload, dX7_word_54, st_l2i, dX7_word_55, dX7_word_56, dX7_word_59, dX7_word_61, dX7_word_62, dX7_word_65, st_iinc, dX7_word_68, dX7_word_71, st_goto, dX7_word_74, dX7_word_75, dX7_word_78, dX7_word_80, dX7_word_81, dX7_word_84, dX7_word_85, dX7_word_87, st_putfield, dX7_word_90, dX7_word_91, st_ireturn, dX7_word_92, dX7_word_94, dX7_word_95, dX7_word_98, dX7_word_100, dX7_word_103, dX7_word_104, dX7_word_105, dX7_word_106, dX7_word_109, dX7_word_110, dX7_word_111, dX7_word_114, dX7_word_117, dX7_word_120, dX7_word_123, dX7_word_126, dX7_word_129, dX7_word_130, dX7_word_131, fl_X7_180, dX7_word_134, dX7_word_135, ofI_0, ofI_5, ofJ_1, ofI_m1, hp1, hp2, xwp_s, xcu_s, xcu_n, xPc_e, xsub_0, xsub_n, xsub_s, k105, k9, kn, hwd, p0, p1, p2, e1w, pe1]
            have h32 : pw w + j < 32 := by omega
            have hnz : j < wl w → ¬ wdC (pw w + j) = 0 := fun h => hW2 j h
            have hz : ¬ j < wl w → wdC (pw w + j) = 0 ∧ pw w + j + 1 = pw (w + 1) := fun h => by
              rw [show j = wl w by omega]
              exact ⟨hW1.2.2.2, hW1.1⟩
            clear hR2 ihj
            generalize hc : wdC (pw w + j) = c at *
            by_cases hjw : j < wl w
            · have := hnz hjw
              simp only [h32, this, hjw, true_implies, false_implies, not_true_eq_false, not_false_eq_true, true_and, and_true, and_self]
              try exact True.intro
            · obtain ⟨q1, q2⟩ := hz hjw
              simp only [h32, q1, q2, true_implies, false_implies, not_true_eq_false, not_false_eq_true, true_and, and_true, and_self]
              try exact True.intro
          exact h105i 0 (Nat.zero_le _)
        have ih9 := trivial
        refine xtoC [(105, xPc (wdE σ w = false) [some (.ref 0), some (.int (nI (pw w + 0))), some (.int (faM2 σ (w + 1))), some (.int (nI w)), none, none] (σ))] (xcs_cons (fun q => h105 q) xcs_nil) 24 (fun cf hcf => ?_)
        have k105 : cf 105 = some (xPc (wdE σ w = false) [some (.ref 0), some (.int (nI (pw w + 0))), some (.int (faM2 σ (w + 1))), some (.int (nI w)), none, none] (σ)) := (hcf 105).trans rfl
        have kn : ∀ pc, ¬ pc = 105 → cf pc = none := fun pc h0 => by rw [hcf, xlk_c, if_neg h0, xlk_n]
        clear hcf
        simp (config := {maxSteps := 4000000, implicitDefEqProofs := false}) only [xwp_2, xwp_0, xwp_1, xws_s, xdd_o, xld_0, xld_s, xs1_0, xs1_1, xs1_s, xs2_0, xs2_1, xs2_s, xlg_n, xlg_i, xlg_r, xlg_z, xlg_l, xf4_0, xf4_1, xf4_2, xf4_3, xgo_e, xcmp_eq, xcmp_ne, xcmp_lt, xcmp_ge, xcmp_gt, xcmp_le, xfg_0, xfg_1, xfg_2, xfg_3, xfg_4, xpop_0, xpop_s, xsw_n, xsw_c, xtb_n, xtb_c, xenp_n, xenp_i, xenp_r, xenp_z, xenp_l, xrep_0, xrep_s, Nat.reduceSub, true_and, and_true, cat_i, cat_r, Nat.reduceAdd, Nat.reduceLT, Nat.reduceLeDiff, Nat.reduceEqDiff, xnc, Int.reduceAdd, Int.reduceSub, Int.reduceNeg, Int.reduceLE, Int.reduceLT, Int.reduceToNat, ↓reduceIte, List.length_cons, List.length_nil, xlc0, xlc1, ite_10, i10, i01, i0_2, i0_3, i0_4, i0_6, i0_7, i0_8, i0_49, i0_10, or_true, true_or, or_false, false_or, not_false_eq_true, not_true_eq_false, xnt, xI_g, eq_self, xI_2, xJ_1, false_and, and_false, obM_t, rMi, vp_tn, tn_def, lgc, nI8, nI6, nI160, nI20, nI401, nI49, aM_6, aM_7, aM_8, aM_9, aM_10, aM_11, aM_12, aM_13, aM_14, aM_15, aM_16, aM_17, aM_18, aM_19, aM_20, aM_21, aM_22, aM_23, aM_24, aM_25, aM_26, aM_27, aM_28, aM_29, aM_30, aM_31, aM_38, aM_39, aM_40, aM_41, aM_42, aM_43, aM_44, aM_45, aM_46, aM_47, lM_6, lM_7, lM_8, lM_9, lM_10, lM_11, lM_12, lM_13, lM_14, lM_15, lM_16, lM_17, lM_18, lM_19, lM_20, lM_21, lM_22, lM_23, lM_24, lM_25, lM_26, lM_27, lM_28, lM_29, lM_30, lM_31, lM_38, lM_39, lM_40, lM_41, lM_42, lM_43, lM_44, lM_45, lM_46, lM_47, dX7_word_0, st_iconst, dX7_word_1, st_istore_n, dX7_word_2, st_aload_n, dX7_word_3, st_getfield, fl_X7_183, dX7_word_6, dX7_word_7, dX7_word_8, dX7_word_9, st_iload_n, dX7_word_10, dX7_word_11, st_if_icmp, dX7_word_14, dX7_word_15, dX7_word_18, st_istore, dX7_word_20, dX7_word_21, dX7_word_23, dX7_word_24, fl_X7_87, dX7_word_27, st_iload, dX7_word_29, st_iaload, dX7_word_30, st_ifCond, dX7_word_33, dX7_word_35, dX7_word_36, fl_X7_186, dX7_word_39, dX7_word_42, dX7_word_43, fl_X7_80, dX7_word_46, dX7_word_47, fl_X7_189, dX7_word_50, dX7_word_52, st_iadd, dX7_word_53, st_laload, dX7_word_54, st_l2i, dX7_word_55, dX7_word_56, dX7_word_59, dX7_word_61, dX7_word_62, dX7_word_65, st_iinc, dX7_word_68, dX7_word_71, st_goto, dX7_word_74, dX7_word_75, dX7_word_78, dX7_word_80, dX7_word_81, dX7_word_84, dX7_word_85, dX7_word_87, st_putfield, dX7_word_90, dX7_word_91, st_ireturn, dX7_word_92, dX7_word_94, dX7_word_95, dX7_word_98, dX7_word_100, dX7_word_103, dX7_word_104, dX7_word_105, dX7_word_106, dX7_word_109, dX7_word_110, dX7_word_111, dX7_word_114, dX7_word_117, dX7_word_120, dX7_word_123, dX7_word_126, dX7_word_129, dX7_word_130, dX7_word_131, fl_X7_180, dX7_word_134, dX7_word_135, ofI_0, ofI_5, ofJ_1, ofI_m1, hp1, hp2, xwp_s, xcu_s, xcu_n, xPc_e, xsub_0, xsub_n, xsub_s, k105, kn, hwdk, k0, k2, hk32]
        have e5 : wdE σ w = decide (wmN σ w = wl w) := rfl
        have hz : wdC (pw w + k) = 0 ↔ k = wl w := ⟨fun h => by
          by_cases hlt : k < wl w
          · exact absurd h (hW2 k hlt)
          · omega, fun h => by rw [h]; exact hW1.2.2.2⟩
        have found : k = wl w → wrdM σ = (nI w, xI σ 0 33 (σ.1 0 33 + nI k)) := fun h => by
          have a1 : wdE σ w = true := by rw [e5]; exact decide_eq_true (hkN.trans h)
          have a2 : xfs (wdE σ) 5 = w := xfs_at hw5 a1 hH
          rw [wrdM, a2, wrdF, if_pos hw5, h]
        have nf : ¬ k = wl w → wdE σ w = false := fun h => by rw [e5]; exact decide_eq_false (fun q => h (hkN.symm.trans q))
        have hfa : faM2 σ (w + 1) = if faM2 σ w < σ.1 0 33 + nI k then σ.1 0 33 + nI k else faM2 σ w := by rw [faM2_s, hkN]
        rw [hfa]
        simp only [hR2, hz, Nat.add_zero]
        clear hR2 h105 ih9 hH hW2
        repeat' (first | refine And.intro ?_ ?_ | intro _)
        all_goals grind (splits := 20)
      have ih9 := trivial
      have h23i : ∀ k, k ≤ wl w → (∀ j, j < k → wmS σ w j = false) → xGo WM 6 (xlk fldX7) (xlk calX7_word) (xlk []) (xlk []) (fun _ => none) 0 cX7_word Rt 23 [some (.ref 0), some (.int (nI (pw w))), some (.int (faM2 σ w)), some (.int (nI w)), some (.int (σ.1 0 33 + nI k)), some (.int (nI (pw w + k)))] [] (σ) := by
        refine xcount (wl w) (fun k => (∀ j, j < k → wmS σ w j = false) → xGo WM 6 (xlk fldX7) (xlk calX7_word) (xlk []) (xlk []) (fun _ => none) 0 cX7_word Rt 23 [some (.ref 0), some (.int (nI (pw w))), some (.int (faM2 σ w)), some (.int (nI w)), some (.int (σ.1 0 33 + nI k)), some (.int (nI (pw w + k)))] [] (σ)) (fun k hk ihk hK => ?_)
        have hwdk : σ.1 29 (pw w + k) = wdC (pw w + k) := hp2 _ (by omega)
        have k0 : 0 ≤ nI (pw w + k) := nI_pos' (by omega)
        have k1 : nI (pw w + k) + 1 = nI (pw w + (k + 1)) := nI_1 _
        have k2 : tn (nI (pw w + k)) = pw w + k := tn_nI (by omega)
        have hk32 : pw w + k < 32 := by omega
        have f1 : σ.1 0 33 + nI k + 1 = σ.1 0 33 + nI (k + 1) := by rw [Int32.add_assoc, nI_1]
        have f2 : 0 ≤ σ.1 0 33 + nI k := at_k hp1.2.1 hp1.2.2.1 hp1.2.2.2 (by omega)
        have f0 : nI 0 = 0 := nI_00
        refine xtoCs [(23, xPc (k < wl w ∧ (∀ j, j < (k + 1) → wmS σ w j = false)) [some (.ref 0), some (.int (nI (pw w))), some (.int (faM2 σ w)), some (.int (nI w)), some (.int (σ.1 0 33 + nI (k + 1))), some (.int (nI (pw w + (k + 1))))] (σ)), (74, xPc (wmS σ w k = true) [some (.ref 0), some (.int (nI (pw w))), some (.int (faM2 σ w)), some (.int (nI w)), some (.int (σ.1 0 33 + nI k)), some (.int (nI (pw w + k)))] (σ))] (xcs_cons (fun q => ihk q.1 q.2) (xcs_cons (fun q => h74 k hk q hK) xcs_nil)) 30 (fun cf hcf => ?_)
        have k23 : cf 23 = some (xPc (k < wl w ∧ (∀ j, j < (k + 1) → wmS σ w j = false)) [some (.ref 0), some (.int (nI (pw w))), some (.int (faM2 σ w)), some (.int (nI w)), some (.int (σ.1 0 33 + nI (k + 1))), some (.int (nI (pw w + (k + 1))))] (σ)) := (hcf 23).trans rfl
        have k74 : cf 74 = some (xPc (wmS σ w k = true) [some (.ref 0), some (.int (nI (pw w))), some (.int (faM2 σ w)), some (.int (nI w)), some (.int (σ.1 0 33 + nI k)), some (.int (nI (pw w + k)))] (σ)) := (hcf 74).trans rfl
        have kn : ∀ pc, ¬ pc = 23 → ¬ pc = 74 → cf pc = none := fun pc h0 h1 => by rw [hcf, xlk_c, if_neg h0, xlk_c, if_neg h1, xlk_n]
        clear hcf
        simp (config := {maxSteps := 4000000, implicitDefEqProofs := false}) only [xwp_2, xwp_0, xwp_1, xws_s, xdd_o, xld_0, xld_s, xs1_0, xs1_1, xs1_s, xs2_0, xs2_1, xs2_s, xlg_n, xlg_i, xlg_r, xlg_z, xlg_l, xf4_0, xf4_1, xf4_2, xf4_3, xgo_e, xcmp_eq, xcmp_ne, xcmp_lt, xcmp_ge, xcmp_gt, xcmp_le, xfg_0, xfg_1, xfg_2, xfg_3, xfg_4, xpop_0, xpop_s, xsw_n, xsw_c, xtb_n, xtb_c, xenp_n, xenp_i, xenp_r, xenp_z, xenp_l, xrep_0, xrep_s, Nat.reduceSub, true_and, and_true, cat_i, cat_r, Nat.reduceAdd, Nat.reduceLT, Nat.reduceLeDiff, Nat.reduceEqDiff, xnc, Int.reduceAdd, Int.reduceSub, Int.reduceNeg, Int.reduceLE, Int.reduceLT, Int.reduceToNat, ↓reduceIte, List.length_cons, List.length_nil, xlc0, xlc1, ite_10, i10, i01, i0_2, i0_3, i0_4, i0_6, i0_7, i0_8, i0_49, i0_10, or_true, true_or, or_false, false_or, not_false_eq_true, not_true_eq_false, xnt, xI_g, eq_self, xI_2, xJ_1, false_and, and_false, obM_t, rMi, vp_tn, tn_def, lgc, nI8, nI6, nI160, nI20, nI401, nI49, aM_6, aM_7, aM_8, aM_9, aM_10, aM_11, aM_12, aM_13, aM_14, aM_15, aM_16, aM_17, aM_18, aM_19, aM_20, aM_21, aM_22, aM_23, aM_24, aM_25, aM_26, aM_27, aM_28, aM_29, aM_30, aM_31, aM_38, aM_39, aM_40, aM_41, aM_42, aM_43, aM_44, aM_45, aM_46, aM_47, lM_6, lM_7, lM_8, lM_9, lM_10, lM_11, lM_12, lM_13, lM_14, lM_15, lM_16, lM_17, lM_18, lM_19, lM_20, lM_21, lM_22, lM_23, lM_24, lM_25, lM_26, lM_27, lM_28, lM_29, lM_30, lM_31, lM_38, lM_39, lM_40, lM_41, lM_42, lM_43, lM_44, lM_45, lM_46, lM_47, dX7_word_0, st_iconst, dX7_word_1, st_istore_n, dX7_word_2, st_aload_n, dX7_word_3, st_getfield, fl_X7_183, dX7_word_6, dX7_word_7, dX7_word_8, dX7_word_9, st_iload_n, dX7_word_10, dX7_word_11, st_if_icmp, dX7_word_14, dX7_word_15, dX7_word_18, st_istore, dX7_word_20, dX7_word_21, dX7_word_23, dX7_word_24, fl_X7_87, dX7_word_27, st_iload, dX7_word_29, st_iaload, dX7_word_30, st_ifCond, dX7_word_33, dX7_word_35, dX7_word_36, fl_X7_186, dX7_word_39, dX7_word_42, dX7_word_43, fl_X7_80, dX7_word_46, dX7_word_47, fl_X7_189, dX7_word_50, dX7_word_52, st_iadd, dX7_word_53, st_laload, dX7_word_54, st_l2i, dX7_word_55, dX7_word_56, dX7_word_59, dX7_word_61, dX7_word_62, dX7_word_65, st_iinc, dX7_word_68, dX7_word_71, st_goto, dX7_word_74, dX7_word_75, dX7_word_78, dX7_word_80, dX7_word_81, dX7_word_84, dX7_word_85, dX7_word_87, st_putfield, dX7_word_90, dX7_word_91, st_ireturn, dX7_word_92, dX7_word_94, dX7_word_95, dX7_word_98, dX7_word_100, dX7_word_103, dX7_word_104, dX7_word_105, dX7_word_106, dX7_word_109, dX7_word_110, dX7_word_111, dX7_word_114, dX7_word_117, dX7_word_120, dX7_word_123, dX7_word_126, dX7_word_129, dX7_word_130, dX7_word_131, fl_X7_180, dX7_word_134, dX7_word_135, ofI_0, ofI_5, ofJ_1, ofI_m1, hp1, hp2, xwp_s, xcu_s, xcu_n, xPc_e, xsub_0, xsub_n, xsub_s, k23, k74, kn, hwdk, k0, k1, k2, hk32, f1, f0, lettA_f]
        have e5 : wmS σ w k = decide (wdC (pw w + k) = 0 ∨ ¬ σ.1 0 33 + nI k < σ.1 0 34 ∨ ¬ lettA σ (σ.1 0 33 + nI k) = wdC (pw w + k)) := rfl
        have cont : wmS σ w k = false → (∀ j, j < k + 1 → wmS σ w j = false) := fun h2 => xall_s hK h2
        have hlt : wmS σ w k = false → k < wl w := fun h => by
          by_cases hlt : k < wl w
          · exact hlt
          · have h2 := of_decide_eq_false (e5 ▸ h)
            exact absurd (Or.inl (by rw [show k = wl w by omega]; exact hW1.2.2.2)) h2
        have hb : σ.1 0 33 + nI k < σ.1 0 34 → 0 ≤ σ.1 0 32 + (σ.1 0 33 + nI k) ∧ tn (σ.1 0 32 + (σ.1 0 33 + nI k)) < 1280 := fun h => rd_n hp1.1.1 hp1.1.2 f2 h hp1.2.2.2
        try simp only [f1]
        clear hR2 ihk h74 ih9 hH hW2 hp1 hp2
        generalize lettA σ (σ.1 0 33 + nI k) = lt at *
        generalize wdC (pw w + k) = c at *
        generalize wmS σ w k = wb at *
        generalize tn (σ.1 0 32 + (σ.1 0 33 + nI k)) = t1 at *
        generalize σ.1 0 32 + (σ.1 0 33 + nI k) = t2 at *
        generalize σ.1 0 33 + nI k = t3 at *
        repeat' (first | refine And.intro ?_ ?_ | intro _)
        all_goals grind (splits := 20)
      exact h23i 0 (Nat.zero_le _) (fun j hj => by omega)
    refine xtoCs [(9, xPc (w < 5 ∧ (∀ j, j < (w + 1) → wdE σ j = false)) [some (.ref 0), some (.int (nI (pw (w + 1)))), some (.int (faM2 σ (w + 1))), some (.int (nI (w + 1))), none, none] (σ)), (23, xPc (w < 5) [some (.ref 0), some (.int (nI (pw w))), some (.int (faM2 σ w)), some (.int (nI w)), some (.int (σ.1 0 33 + nI 0)), some (.int (nI (pw w + 0)))] (σ))] (xcs_cons (fun q => ih q.1 q.2) (xcs_cons (fun q => h23 q) xcs_nil)) 14 (fun cf hcf => ?_)
    have k9 : cf 9 = some (xPc (w < 5 ∧ (∀ j, j < (w + 1) → wdE σ j = false)) [some (.ref 0), some (.int (nI (pw (w + 1)))), some (.int (faM2 σ (w + 1))), some (.int (nI (w + 1))), none, none] (σ)) := (hcf 9).trans rfl
    have k23 : cf 23 = some (xPc (w < 5) [some (.ref 0), some (.int (nI (pw w))), some (.int (faM2 σ w)), some (.int (nI w)), some (.int (σ.1 0 33 + nI 0)), some (.int (nI (pw w + 0)))] (σ)) := (hcf 23).trans rfl
    have kn : ∀ pc, ¬ pc = 9 → ¬ pc = 23 → cf pc = none := fun pc h0 h1 => by rw [hcf, xlk_c, if_neg h0, xlk_c, if_neg h1, xlk_n]
    clear hcf
    simp (config := {maxSteps := 4000000, implicitDefEqProofs := false}) only [xwp_2, xwp_0, xwp_1, xws_s, xdd_o, xld_0, xld_s, xs1_0, xs1_1, xs1_s, xs2_0, xs2_1, xs2_s, xlg_n, xlg_i, xlg_r, xlg_z, xlg_l, xf4_0, xf4_1, xf4_2, xf4_3, xgo_e, xcmp_eq, xcmp_ne, xcmp_lt, xcmp_ge, xcmp_gt, xcmp_le, xfg_0, xfg_1, xfg_2, xfg_3, xfg_4, xpop_0, xpop_s, xsw_n, xsw_c, xtb_n, xtb_c, xenp_n, xenp_i, xenp_r, xenp_z, xenp_l, xrep_0, xrep_s, Nat.reduceSub, true_and, and_true, cat_i, cat_r, Nat.reduceAdd, Nat.reduceLT, Nat.reduceLeDiff, Nat.reduceEqDiff, xnc, Int.reduceAdd, Int.reduceSub, Int.reduceNeg, Int.reduceLE, Int.reduceLT, Int.reduceToNat, ↓reduceIte, List.length_cons, List.length_nil, xlc0, xlc1, ite_10, i10, i01, i0_2, i0_3, i0_4, i0_6, i0_7, i0_8, i0_49, i0_10, or_true, true_or, or_false, false_or, not_false_eq_true, not_true_eq_false, xnt, xI_g, eq_self, xI_2, xJ_1, false_and, and_false, obM_t, rMi, vp_tn, tn_def, lgc, nI8, nI6, nI160, nI20, nI401, nI49, aM_6, aM_7, aM_8, aM_9, aM_10, aM_11, aM_12, aM_13, aM_14, aM_15, aM_16, aM_17, aM_18, aM_19, aM_20, aM_21, aM_22, aM_23, aM_24, aM_25, aM_26, aM_27, aM_28, aM_29, aM_30, aM_31, aM_38, aM_39, aM_40, aM_41, aM_42, aM_43, aM_44, aM_45, aM_46, aM_47, lM_6, lM_7, lM_8, lM_9, lM_10, lM_11, lM_12, lM_13, lM_14, lM_15, lM_16, lM_17, lM_18, lM_19, lM_20, lM_21, lM_22, lM_23, lM_24, lM_25, lM_26, lM_27, lM_28, lM_29, lM_30, lM_31, lM_38, lM_39, lM_40, lM_41, lM_42, lM_43, lM_44, lM_45, lM_46, lM_47, dX7_word_0, st_iconst, dX7_word_1, st_istore_n, dX7_word_2, st_aload_n, dX7_word_3, st_getfield, fl_X7_183, dX7_word_6, dX7_word_7, dX7_word_8, dX7_word_9, st_iload_n, dX7_word_10, dX7_word_11, st_if_icmp, dX7_word_14, dX7_word_15, dX7_word_18, st_istore, dX7_word_20, dX7_word_21, dX7_word_23, dX7_word_24, fl_X7_87, dX7_word_27, st_iload, dX7_word_29, st_iaload, dX7_word_30, st_ifCond, dX7_word_33, dX7_word_35, dX7_word_36, fl_X7_186, dX7_word_39, dX7_word_42, dX7_word_43, fl_X7_80, dX7_word_46, dX7_word_47, fl_X7_189, dX7_word_50, dX7_word_52, st_iadd, dX7_word_53, st_laload, dX7_word_54, st_l2i, dX7_word_55, dX7_word_56, dX7_word_59, dX7_word_61, dX7_word_62, dX7_word_65, st_iinc, dX7_word_68, dX7_word_71, st_goto, dX7_word_74, dX7_word_75, dX7_word_78, dX7_word_80, dX7_word_81, dX7_word_84, dX7_word_85, dX7_word_87, st_putfield, dX7_word_90, dX7_word_91, st_ireturn, dX7_word_92, dX7_word_94, dX7_word_95, dX7_word_98, dX7_word_100, dX7_word_103, dX7_word_104, dX7_word_105, dX7_word_106, dX7_word_109, dX7_word_110, dX7_word_111, dX7_word_114, dX7_word_117, dX7_word_120, dX7_word_123, dX7_word_126, dX7_word_129, dX7_word_130, dX7_word_131, fl_X7_180, dX7_word_134, dX7_word_135, ofI_0, ofI_5, ofJ_1, ofI_m1, hp1, hp2, xwp_s, xcu_s, xcu_n, xPc_e, xsub_0, xsub_n, xsub_s, k9, k23, kn, hcw, nI_00, Nat.add_zero, Int32.add_zero]
    have fin : 5 ≤ w → wrdM σ = (-1, xI σ 0 37 (faM2 σ w)) := fun h => by
      have a2 : xfs (wdE σ) 5 = 5 := xfs_no (fun j hj => hH j (by omega))
      rw [wrdM, a2, wrdF, if_neg (by omega), show w = 5 by omega]
    have h8 : ¬ 5 ≤ w → w < 5 := fun h => by omega
    simp only [hR2]
    clear hR2 ih h23
    repeat' (first | refine And.intro ?_ ?_ | intro _)
    all_goals grind (splits := 20)
  refine xtoC [(9, xPc (True) [some (.ref 0), some (.int (nI (pw 0))), some (.int (faM2 σ 0)), some (.int (nI 0)), none, none] (σ))] (xcs_cons (fun _ => h9 0 (Nat.zero_le _) (fun j hj => by omega)) xcs_nil) 10 (fun cf hcf => ?_)
  have k9 : cf 9 = some (xPc (True) [some (.ref 0), some (.int (nI (pw 0))), some (.int (faM2 σ 0)), some (.int (nI 0)), none, none] (σ)) := (hcf 9).trans rfl
  have kn : ∀ pc, ¬ pc = 9 → cf pc = none := fun pc h0 => by rw [hcf, xlk_c, if_neg h0, xlk_n]
  clear hcf
  simp (config := {maxSteps := 4000000, implicitDefEqProofs := false}) only [xwp_2, xwp_0, xwp_1, xws_s, xdd_o, xld_0, xld_s, xs1_0, xs1_1, xs1_s, xs2_0, xs2_1, xs2_s, xlg_n, xlg_i, xlg_r, xlg_z, xlg_l, xf4_0, xf4_1, xf4_2, xf4_3, xgo_e, xcmp_eq, xcmp_ne, xcmp_lt, xcmp_ge, xcmp_gt, xcmp_le, xfg_0, xfg_1, xfg_2, xfg_3, xfg_4, xpop_0, xpop_s, xsw_n, xsw_c, xtb_n, xtb_c, xenp_n, xenp_i, xenp_r, xenp_z, xenp_l, xrep_0, xrep_s, Nat.reduceSub, true_and, and_true, cat_i, cat_r, Nat.reduceAdd, Nat.reduceLT, Nat.reduceLeDiff, Nat.reduceEqDiff, xnc, Int.reduceAdd, Int.reduceSub, Int.reduceNeg, Int.reduceLE, Int.reduceLT, Int.reduceToNat, ↓reduceIte, List.length_cons, List.length_nil, xlc0, xlc1, ite_10, i10, i01, i0_2, i0_3, i0_4, i0_6, i0_7, i0_8, i0_49, i0_10, or_true, true_or, or_false, false_or, not_false_eq_true, not_true_eq_false, xnt, xI_g, eq_self, xI_2, xJ_1, false_and, and_false, obM_t, rMi, vp_tn, tn_def, lgc, nI8, nI6, nI160, nI20, nI401, nI49, aM_6, aM_7, aM_8, aM_9, aM_10, aM_11, aM_12, aM_13, aM_14, aM_15, aM_16, aM_17, aM_18, aM_19, aM_20, aM_21, aM_22, aM_23, aM_24, aM_25, aM_26, aM_27, aM_28, aM_29, aM_30, aM_31, aM_38, aM_39, aM_40, aM_41, aM_42, aM_43, aM_44, aM_45, aM_46, aM_47, lM_6, lM_7, lM_8, lM_9, lM_10, lM_11, lM_12, lM_13, lM_14, lM_15, lM_16, lM_17, lM_18, lM_19, lM_20, lM_21, lM_22, lM_23, lM_24, lM_25, lM_26, lM_27, lM_28, lM_29, lM_30, lM_31, lM_38, lM_39, lM_40, lM_41, lM_42, lM_43, lM_44, lM_45, lM_46, lM_47, dX7_word_0, st_iconst, dX7_word_1, st_istore_n, dX7_word_2, st_aload_n, dX7_word_3, st_getfield, fl_X7_183, dX7_word_6, dX7_word_7, dX7_word_8, dX7_word_9, st_iload_n, dX7_word_10, dX7_word_11, st_if_icmp, dX7_word_14, dX7_word_15, dX7_word_18, st_istore, dX7_word_20, dX7_word_21, dX7_word_23, dX7_word_24, fl_X7_87, dX7_word_27, st_iload, dX7_word_29, st_iaload, dX7_word_30, st_ifCond, dX7_word_33, dX7_word_35, dX7_word_36, fl_X7_186, dX7_word_39, dX7_word_42, dX7_word_43, fl_X7_80, dX7_word_46, dX7_word_47, fl_X7_189, dX7_word_50, dX7_word_52, st_iadd, dX7_word_53, st_laload, dX7_word_54, st_l2i, dX7_word_55, dX7_word_56, dX7_word_59, dX7_word_61, dX7_word_62, dX7_word_65, st_iinc, dX7_word_68, dX7_word_71, st_goto, dX7_word_74, dX7_word_75, dX7_word_78, dX7_word_80, dX7_word_81, dX7_word_84, dX7_word_85, dX7_word_87, st_putfield, dX7_word_90, dX7_word_91, st_ireturn, dX7_word_92, dX7_word_94, dX7_word_95, dX7_word_98, dX7_word_100, dX7_word_103, dX7_word_104, dX7_word_105, dX7_word_106, dX7_word_109, dX7_word_110, dX7_word_111, dX7_word_114, dX7_word_117, dX7_word_120, dX7_word_123, dX7_word_126, dX7_word_129, dX7_word_130, dX7_word_131, fl_X7_180, dX7_word_134, dX7_word_135, ofI_0, ofI_5, ofJ_1, ofI_m1, hp1, hp2, xwp_s, xcu_s, xcu_n, xPc_e, xsub_0, xsub_n, xsub_s, k9, kn, nI_00, faM2_0, show pw 0 = 0 from rfl]
  try simp
theorem rX7_word : ∀ as σ, pX7_word as σ → ∃ K as', as = .ref K :: as' ∧ xob WM K 7 := by
  rintro as σ ⟨rfl, hpre⟩
  exact ⟨_, _, rfl, by first | exact hpre | exact hpre.1 | exact obT hpre | exact obT hpre.1 | exact obS hpre | exact obS hpre.1 | exact obM | exact ob6 | exact ob2 | exact ob0⟩
def pX7_isWordAt (as : List Value) (σ : xS) : Prop := ∃ (x : Int32), as = [.ref 0, .int x] ∧ ((rdP σ) ∧ (WD σ) ∧ (0 ≤ x ∧ x < 5))
def fX7_isWordAt (as : List Value) (σ : xS) : Option Value × xS := match as with
  | [.ref 0, .int x] => (some (.int (if waB σ (tn x) = true then 1 else 0)), σ)
  | _ => (none, σ)
theorem pX7_isWordAt_e {x : Int32} {σ : xS} : pX7_isWordAt [.ref 0, .int x] σ = ((rdP σ) ∧ (WD σ) ∧ (0 ≤ x ∧ x < 5)) := propext ⟨fun h => by obtain ⟨x, e, h⟩ := h; cases e; exact h, fun h => ⟨x, rfl, h⟩⟩
theorem fX7_isWordAt_e {x : Int32} {σ : xS} : fX7_isWordAt [.ref 0, .int x] σ = (some (.int (if waB σ (tn x) = true then 1 else 0)), σ) := rfl
def calX7_isWordAt : List (Nat × xCall) := []
set_option maxHeartbeats 1000000 in
set_option maxRecDepth 100000 in
theorem mX7_isWordAt : xMet WM yX7_isWordAt cX7_isWordAt 4 (some .boolean) 1 pX7_isWordAt fX7_isWordAt := by
  refine xMet_of (fld := xlk fldX7) (cal := xlk calX7_isWordAt) (ks := xlk []) (gs := xlk []) (ro := fun _ => none) 1 (by decide) WM_nd rfl fldX7_ok xKs_nil xGs_nil (Or.inr rfl) xcal_nil ?_ ?_
  · rintro av σ ⟨x, rfl, hpre⟩
    exact Nat.le_of_ble_eq_true rfl
  rintro av σ ⟨x, rfl, ⟨hp1, hp2, hp3⟩⟩ Rt hR
  have hR : ∀ r σ', Rt r σ' = (r = some (.int (if waB σ (tn x) = true then 1 else 0)) ∧ σ' = σ) := hR
  obtain ⟨n, hn, rfl⟩ : ∃ n, n < 5 ∧ x = nI n := by
    refine ⟨tn x, ?_, (tn_of hp3.1).symm⟩
    have h1 : x.toInt < 5 := by simpa using Int32.lt_iff_toInt_lt.mp hp3.2
    show x.toInt.toNat < 5
    omega
  rw [tn_nI (by omega)] at hR
  obtain ⟨hW1, hW2⟩ := waF n hn
  have hw8 := hW1.2.2.1
  have hw32 := hW1.1
  have hw1 := hW1.2.1
  have h37 : ∀ k, k ≤ wl n - 1 → (∀ j, j < k → waS σ n j = false) → xGo WM 4 (xlk fldX7) (xlk calX7_isWordAt) (xlk []) (xlk []) (fun _ => none) 1 cX7_isWordAt Rt 37 [some (.ref 0), some (.int (nI n)), some (.int (nI (pw n + k))), some (.int (σ.1 0 33 + nI k))] [] (σ) := by
    refine xcount (wl n - 1) (fun k => (∀ j, j < k → waS σ n j = false) → xGo WM 4 (xlk fldX7) (xlk calX7_isWordAt) (xlk []) (xlk []) (fun _ => none) 1 cX7_isWordAt Rt 37 [some (.ref 0), some (.int (nI n)), some (.int (nI (pw n + k))), some (.int (σ.1 0 33 + nI k))] [] (σ)) (fun k hk ihk hK => ?_)
    have hwdk : σ.1 29 (pw n + k) = wdC (pw n + k) := hp2 _ (by omega)
    have k0 : 0 ≤ nI (pw n + k) := nI_pos' (by omega)
    have k1 : nI (pw n + k) + 1 = nI (pw n + (k + 1)) := nI_1 _
    have k2 : tn (nI (pw n + k)) = pw n + k := tn_nI (by omega)
    have hk32 : pw n + k < 32 := by omega
    have f1 : σ.1 0 33 + nI k + 1 = σ.1 0 33 + nI (k + 1) := by rw [Int32.add_assoc, nI_1]
    have f2 : 0 ≤ σ.1 0 33 + nI k := at_k hp1.2.1 hp1.2.2.1 hp1.2.2.2 (by omega)
    refine xtoCs [(37, xPc (k < wl n - 1 ∧ (∀ j, j < (k + 1) → waS σ n j = false)) [some (.ref 0), some (.int (nI n)), some (.int (nI (pw n + (k + 1)))), some (.int (σ.1 0 33 + nI (k + 1)))] (σ))] (xcs_cons (fun q => ihk q.1 q.2) xcs_nil) 42 (fun cf hcf => ?_)
    have k37 : cf 37 = some (xPc (k < wl n - 1 ∧ (∀ j, j < (k + 1) → waS σ n j = false)) [some (.ref 0), some (.int (nI n)), some (.int (nI (pw n + (k + 1)))), some (.int (σ.1 0 33 + nI (k + 1)))] (σ)) := (hcf 37).trans rfl
    have kn : ∀ pc, ¬ pc = 37 → cf pc = none := fun pc h0 => by rw [hcf, xlk_c, if_neg h0, xlk_n]
    clear hcf
    simp (config := {maxSteps := 4000000, implicitDefEqProofs := false}) only [xwp_2, xwp_0, xwp_1, xws_s, xdd_o, xld_0, xld_s, xs1_0, xs1_1, xs1_s, xs2_0, xs2_1, xs2_s, xlg_n, xlg_i, xlg_r, xlg_z, xlg_l, xf4_0, xf4_1, xf4_2, xf4_3, xgo_e, xcmp_eq, xcmp_ne, xcmp_lt, xcmp_ge, xcmp_gt, xcmp_le, xfg_0, xfg_1, xfg_2, xfg_3, xfg_4, xpop_0, xpop_s, xsw_n, xsw_c, xtb_n, xtb_c, xenp_n, xenp_i, xenp_r, xenp_z, xenp_l, xrep_0, xrep_s, Nat.reduceSub, true_and, and_true, cat_i, cat_r, Nat.reduceAdd, Nat.reduceLT, Nat.reduceLeDiff, Nat.reduceEqDiff, xnc, Int.reduceAdd, Int.reduceSub, Int.reduceNeg, Int.reduceLE, Int.reduceLT, Int.reduceToNat, ↓reduceIte, List.length_cons, List.length_nil, xlc0, xlc1, ite_10, i10, i01, i0_2, i0_3, i0_4, i0_6, i0_7, i0_8, i0_49, i0_10, or_true, true_or, or_false, false_or, not_false_eq_true, not_true_eq_false, xnt, xI_g, eq_self, xI_2, xJ_1, false_and, and_false, obM_t, rMi, vp_tn, tn_def, lgc, nI8, nI6, nI160, nI20, nI401, nI49, aM_6, aM_7, aM_8, aM_9, aM_10, aM_11, aM_12, aM_13, aM_14, aM_15, aM_16, aM_17, aM_18, aM_19, aM_20, aM_21, aM_22, aM_23, aM_24, aM_25, aM_26, aM_27, aM_28, aM_29, aM_30, aM_31, aM_38, aM_39, aM_40, aM_41, aM_42, aM_43, aM_44, aM_45, aM_46, aM_47, lM_6, lM_7, lM_8, lM_9, lM_10, lM_11, lM_12, lM_13, lM_14, lM_15, lM_16, lM_17, lM_18, lM_19, lM_20, lM_21, lM_22, lM_23, lM_24, lM_25, lM_26, lM_27, lM_28, lM_29, lM_30, lM_31, lM_38, lM_39, lM_40, lM_41, lM_42, lM_43, lM_44, lM_45, lM_46, lM_47, dX7_isWordAt_0, st_iconst, dX7_isWordAt_1, st_istore_n, dX7_isWordAt_2, dX7_isWordAt_3, dX7_isWordAt_4, st_iload_n, dX7_isWordAt_5, dX7_isWordAt_6, st_if_icmp, dX7_isWordAt_9, dX7_isWordAt_10, st_aload_n, dX7_isWordAt_11, st_getfield, fl_X7_87, dX7_isWordAt_14, dX7_isWordAt_15, st_iaload, dX7_isWordAt_16, st_ifCond, dX7_isWordAt_19, dX7_isWordAt_20, st_goto, dX7_isWordAt_23, dX7_isWordAt_24, st_iadd, dX7_isWordAt_25, dX7_isWordAt_26, st_iinc, dX7_isWordAt_29, dX7_isWordAt_32, dX7_isWordAt_33, fl_X7_183, dX7_isWordAt_36, dX7_isWordAt_37, dX7_isWordAt_38, dX7_isWordAt_41, dX7_isWordAt_42, dX7_isWordAt_43, st_bipush, dX7_isWordAt_45, dX7_isWordAt_48, dX7_isWordAt_49, dX7_isWordAt_50, fl_X7_186, dX7_isWordAt_53, dX7_isWordAt_56, dX7_isWordAt_57, fl_X7_80, dX7_isWordAt_60, dX7_isWordAt_61, fl_X7_189, dX7_isWordAt_64, dX7_isWordAt_65, dX7_isWordAt_66, st_laload, dX7_isWordAt_67, st_l2i, dX7_isWordAt_68, dX7_isWordAt_69, dX7_isWordAt_72, dX7_isWordAt_73, dX7_isWordAt_74, dX7_isWordAt_77, dX7_isWordAt_80, dX7_isWordAt_83, dX7_isWordAt_86, dX7_isWordAt_87, dX7_isWordAt_90, dX7_isWordAt_91, dX7_isWordAt_92, dX7_isWordAt_94, dX7_isWordAt_97, dX7_isWordAt_98, dX7_isWordAt_101, dX7_isWordAt_102, st_ireturn, ofI_0, ofJ_1, ofI_32, hp1, hp2, hp3, xwp_s, xcu_s, xcu_n, xPc_e, xsub_0, xsub_n, xsub_s, k37, kn, hwdk, k0, k1, k2, hk32, f1, lettA_f]
    have e5 : waS σ n k = decide (wdC (pw n + k) ≤ 32 ∨ ¬ σ.1 0 33 + nI k < σ.1 0 34 ∨ ¬ lettA σ (σ.1 0 33 + nI k) = wdC (pw n + k)) := rfl
    have cont : waS σ n k = false → (∀ j, j < k + 1 → waS σ n j = false) := fun h2 => xall_s hK h2
    have hle : wdC (pw n + k) ≤ 32 ↔ k = wl n - 1 := ⟨fun h => by
      by_cases hlt : k < wl n - 1
      · exact absurd h (hW2 k hlt)
      · omega, fun h => by rw [h]; exact hW1.2.2.2⟩
    have stop : waS σ n k = true → (waB σ n = true ↔ k = wl n - 1) := fun h2 => by
      have a1 : waN σ n = k := xfs_at (by omega) h2 hK
      unfold waB
      rw [a1]
      exact decide_eq_true_iff
    have hlt : ¬ k = wl n - 1 → k < wl n - 1 := fun h => by omega
    have hb : σ.1 0 33 + nI k < σ.1 0 34 → 0 ≤ σ.1 0 32 + (σ.1 0 33 + nI k) ∧ tn (σ.1 0 32 + (σ.1 0 33 + nI k)) < 1280 := fun h => rd_n hp1.1.1 hp1.1.2 f2 h hp1.2.2.2
    have hgt : (32 : Int32) < wdC (pw n + k) ↔ ¬ wdC (pw n + k) ≤ 32 := Int32.not_le.symm
    simp only [hR, hgt, hle]
    simp only [hle] at e5
    clear hR ihk hW2 hp1 hp2 hle hgt
    generalize waB σ n = ab at *
    generalize lettA σ (σ.1 0 33 + nI k) = lt at *
    generalize wdC (pw n + k) = c at *
    generalize waS σ n k = wb at *
    generalize tn (σ.1 0 32 + (σ.1 0 33 + nI k)) = t1 at *
    generalize σ.1 0 32 + (σ.1 0 33 + nI k) = t2 at *
    generalize σ.1 0 33 + nI k = t3 at *
    repeat' (first | refine And.intro ?_ ?_ | intro _)
    all_goals grind (splits := 20)
  have h4 : ∀ c, c ≤ pw n → xGo WM 4 (xlk fldX7) (xlk calX7_isWordAt) (xlk []) (xlk []) (fun _ => none) 1 cX7_isWordAt Rt 4 [some (.ref 0), some (.int (nI n)), some (.int (nI c)), some (.int (nI (zcC c)))] [] (σ) := by
    refine xcount (pw n) (fun c => xGo WM 4 (xlk fldX7) (xlk calX7_isWordAt) (xlk []) (xlk []) (fun _ => none) 1 cX7_isWordAt Rt 4 [some (.ref 0), some (.int (nI n)), some (.int (nI c)), some (.int (nI (zcC c)))] [] (σ)) (fun c hc0 ih => ?_)
    have hpw : pw n < 33 := by omega
    obtain ⟨hz, hz5⟩ := zcF n hn c (by omega) hc0
    have hc : nI n ≤ nI (zcC c) ↔ n ≤ zcC c := nI_leI (by omega) (by omega)
    have c0 : 0 ≤ nI c := nI_pos' (by omega)
    have c1 : nI c + 1 = nI (c + 1) := nI_1 c
    have c2 : tn (nI c) = c := tn_nI (by omega)
    have hwd : c < 32 → σ.1 29 c = wdC c := fun h => hp2 c h
    refine xtoCs [(4, xPc (c < pw n) [some (.ref 0), some (.int (nI n)), some (.int (nI (c + 1))), some (.int (nI (zcC (c + 1))))] (σ)), (37, xPc (True) [some (.ref 0), some (.int (nI n)), some (.int (nI (pw n + 0))), some (.int (σ.1 0 33 + nI 0))] (σ))] (xcs_cons (ih) (xcs_cons (fun _ => h37 0 (Nat.zero_le _) (fun j hj => by omega)) xcs_nil)) 22 (fun cf hcf => ?_)
    have k4 : cf 4 = some (xPc (c < pw n) [some (.ref 0), some (.int (nI n)), some (.int (nI (c + 1))), some (.int (nI (zcC (c + 1))))] (σ)) := (hcf 4).trans rfl
    have k37 : cf 37 = some (xPc (True) [some (.ref 0), some (.int (nI n)), some (.int (nI (pw n + 0))), some (.int (σ.1 0 33 + nI 0))] (σ)) := (hcf 37).trans rfl
    have kn : ∀ pc, ¬ pc = 4 → ¬ pc = 37 → cf pc = none := fun pc h0 h1 => by rw [hcf, xlk_c, if_neg h0, xlk_c, if_neg h1, xlk_n]
    clear hcf
    simp (config := {maxSteps := 4000000, implicitDefEqProofs := false}) only [xwp_2, xwp_0, xwp_1, xws_s, xdd_o, xld_0, xld_s, xs1_0, xs1_1, xs1_s, xs2_0, xs2_1, xs2_s, xlg_n, xlg_i, xlg_r, xlg_z, xlg_l, xf4_0, xf4_1, xf4_2, xf4_3, xgo_e, xcmp_eq, xcmp_ne, xcmp_lt, xcmp_ge, xcmp_gt, xcmp_le, xfg_0, xfg_1, xfg_2, xfg_3, xfg_4, xpop_0, xpop_s, xsw_n, xsw_c, xtb_n, xtb_c, xenp_n, xenp_i, xenp_r, xenp_z, xenp_l, xrep_0, xrep_s, Nat.reduceSub, true_and, and_true, cat_i, cat_r, Nat.reduceAdd, Nat.reduceLT, Nat.reduceLeDiff, Nat.reduceEqDiff, xnc, Int.reduceAdd, Int.reduceSub, Int.reduceNeg, Int.reduceLE, Int.reduceLT, Int.reduceToNat, ↓reduceIte, List.length_cons, List.length_nil, xlc0, xlc1, ite_10, i10, i01, i0_2, i0_3, i0_4, i0_6, i0_7, i0_8, i0_49, i0_10, or_true, true_or, or_false, false_or, not_false_eq_true, not_true_eq_false, xnt, xI_g, eq_self, xI_2, xJ_1, false_and, and_false, obM_t, rMi, vp_tn, tn_def, lgc, nI8, nI6, nI160, nI20, nI401, nI49, aM_6, aM_7, aM_8, aM_9, aM_10, aM_11, aM_12, aM_13, aM_14, aM_15, aM_16, aM_17, aM_18, aM_19, aM_20, aM_21, aM_22, aM_23, aM_24, aM_25, aM_26, aM_27, aM_28, aM_29, aM_30, aM_31, aM_38, aM_39, aM_40, aM_41, aM_42, aM_43, aM_44, aM_45, aM_46, aM_47, lM_6, lM_7, lM_8, lM_9, lM_10, lM_11, lM_12, lM_13, lM_14, lM_15, lM_16, lM_17, lM_18, lM_19, lM_20, lM_21, lM_22, lM_23, lM_24, lM_25, lM_26, lM_27, lM_28, lM_29, lM_30, lM_31, lM_38, lM_39, lM_40, lM_41, lM_42, lM_43, lM_44, lM_45, lM_46, lM_47, dX7_isWordAt_0, st_iconst, dX7_isWordAt_1, st_istore_n, dX7_isWordAt_2, dX7_isWordAt_3, dX7_isWordAt_4, st_iload_n, dX7_isWordAt_5, dX7_isWordAt_6, st_if_icmp, dX7_isWordAt_9, dX7_isWordAt_10, st_aload_n, dX7_isWordAt_11, st_getfield, fl_X7_87, dX7_isWordAt_14, dX7_isWordAt_15, st_iaload, dX7_isWordAt_16, st_ifCond, dX7_isWordAt_19, dX7_isWordAt_20, st_goto, dX7_isWordAt_23, dX7_isWordAt_24, st_iadd, dX7_isWordAt_25, dX7_isWordAt_26, st_iinc, dX7_isWordAt_29, dX7_isWordAt_32, dX7_isWordAt_33, fl_X7_183, dX7_isWordAt_36, dX7_isWordAt_37, dX7_isWordAt_38, dX7_isWordAt_41, dX7_isWordAt_42, dX7_isWordAt_43, st_bipush, dX7_isWordAt_45, dX7_isWordAt_48, dX7_isWordAt_49, dX7_isWordAt_50, fl_X7_186, dX7_isWordAt_53, dX7_isWordAt_56, dX7_isWordAt_57, fl_X7_80, dX7_isWordAt_60, dX7_isWordAt_61, fl_X7_189, dX7_isWordAt_64, dX7_isWordAt_65, dX7_isWordAt_66, st_laload, dX7_isWordAt_67, st_l2i, dX7_isWordAt_68, dX7_isWordAt_69, dX7_isWordAt_72, dX7_isWordAt_73, dX7_isWordAt_74, dX7_isWordAt_77, dX7_isWordAt_80, dX7_isWordAt_83, dX7_isWordAt_86, dX7_isWordAt_87, dX7_isWordAt_90, dX7_isWordAt_91, dX7_isWordAt_92, dX7_isWordAt_94, dX7_isWordAt_97, dX7_isWordAt_98, dX7_isWordAt_101, dX7_isWordAt_102, st_ireturn, ofI_0, ofJ_1, ofI_32, hp1, hp2, hp3, xwp_s, xcu_s, xcu_n, xPc_e, xsub_0, xsub_n, xsub_s, k4, k37, kn, hc, c0, c1, c2, hwd]
    have hE : c = pw n ∨ c < pw n := by omega
    have z0 : σ.1 0 33 + nI 0 = σ.1 0 33 := by rw [nI_00, Int32.add_zero]
    have zs : c < 32 → zcC (c + 1) = zcC c + (if wdC c = 0 then 1 else 0) := zcS c
    rw [z0, Nat.add_zero]
    clear hR ih h37
    rcases hE with hE | hE
    · have h9 : n ≤ zcC c := hz.mpr hE
      subst hE
      simp only [h9, true_implies, false_implies, not_true_eq_false, not_false_eq_true, true_and, and_true, and_self, implies_true]
      try simp
    · have h9 : ¬ n ≤ zcC c := fun q => by have := hz.mp q; omega
      have hc32 : c < 32 := by omega
      have zs := zs hc32
      have hwd := hwd hc32
      by_cases h0 : wdC c = 0
      · rw [if_pos h0] at zs
        have e1 : nI (zcC c) + 1 = nI (zcC c + 1) := nI_1 _
        simp only [h9, hE, hc32, hwd, h0, zs, e1, true_implies, false_implies, not_true_eq_false, not_false_eq_true, true_and, and_true, and_self, implies_true]
        try simp
      · rw [if_neg h0, Nat.add_zero] at zs
        simp only [h9, hE, hc32, hwd, h0, zs, Int32.add_zero, true_implies, false_implies, not_true_eq_false, not_false_eq_true, true_and, and_true, and_self, implies_true]
        try simp
  refine xtoC [(4, xPc (True) [some (.ref 0), some (.int (nI n)), some (.int (nI 0)), some (.int (nI (zcC 0)))] (σ))] (xcs_cons (fun _ => h4 0 (Nat.zero_le _)) xcs_nil) 8 (fun cf hcf => ?_)
  have k4 : cf 4 = some (xPc (True) [some (.ref 0), some (.int (nI n)), some (.int (nI 0)), some (.int (nI (zcC 0)))] (σ)) := (hcf 4).trans rfl
  have kn : ∀ pc, ¬ pc = 4 → cf pc = none := fun pc h0 => by rw [hcf, xlk_c, if_neg h0, xlk_n]
  clear hcf
  simp (config := {maxSteps := 4000000, implicitDefEqProofs := false}) only [xwp_2, xwp_0, xwp_1, xws_s, xdd_o, xld_0, xld_s, xs1_0, xs1_1, xs1_s, xs2_0, xs2_1, xs2_s, xlg_n, xlg_i, xlg_r, xlg_z, xlg_l, xf4_0, xf4_1, xf4_2, xf4_3, xgo_e, xcmp_eq, xcmp_ne, xcmp_lt, xcmp_ge, xcmp_gt, xcmp_le, xfg_0, xfg_1, xfg_2, xfg_3, xfg_4, xpop_0, xpop_s, xsw_n, xsw_c, xtb_n, xtb_c, xenp_n, xenp_i, xenp_r, xenp_z, xenp_l, xrep_0, xrep_s, Nat.reduceSub, true_and, and_true, cat_i, cat_r, Nat.reduceAdd, Nat.reduceLT, Nat.reduceLeDiff, Nat.reduceEqDiff, xnc, Int.reduceAdd, Int.reduceSub, Int.reduceNeg, Int.reduceLE, Int.reduceLT, Int.reduceToNat, ↓reduceIte, List.length_cons, List.length_nil, xlc0, xlc1, ite_10, i10, i01, i0_2, i0_3, i0_4, i0_6, i0_7, i0_8, i0_49, i0_10, or_true, true_or, or_false, false_or, not_false_eq_true, not_true_eq_false, xnt, xI_g, eq_self, xI_2, xJ_1, false_and, and_false, obM_t, rMi, vp_tn, tn_def, lgc, nI8, nI6, nI160, nI20, nI401, nI49, aM_6, aM_7, aM_8, aM_9, aM_10, aM_11, aM_12, aM_13, aM_14, aM_15, aM_16, aM_17, aM_18, aM_19, aM_20, aM_21, aM_22, aM_23, aM_24, aM_25, aM_26, aM_27, aM_28, aM_29, aM_30, aM_31, aM_38, aM_39, aM_40, aM_41, aM_42, aM_43, aM_44, aM_45, aM_46, aM_47, lM_6, lM_7, lM_8, lM_9, lM_10, lM_11, lM_12, lM_13, lM_14, lM_15, lM_16, lM_17, lM_18, lM_19, lM_20, lM_21, lM_22, lM_23, lM_24, lM_25, lM_26, lM_27, lM_28, lM_29, lM_30, lM_31, lM_38, lM_39, lM_40, lM_41, lM_42, lM_43, lM_44, lM_45, lM_46, lM_47, dX7_isWordAt_0, st_iconst, dX7_isWordAt_1, st_istore_n, dX7_isWordAt_2, dX7_isWordAt_3, dX7_isWordAt_4, st_iload_n, dX7_isWordAt_5, dX7_isWordAt_6, st_if_icmp, dX7_isWordAt_9, dX7_isWordAt_10, st_aload_n, dX7_isWordAt_11, st_getfield, fl_X7_87, dX7_isWordAt_14, dX7_isWordAt_15, st_iaload, dX7_isWordAt_16, st_ifCond, dX7_isWordAt_19, dX7_isWordAt_20, st_goto, dX7_isWordAt_23, dX7_isWordAt_24, st_iadd, dX7_isWordAt_25, dX7_isWordAt_26, st_iinc, dX7_isWordAt_29, dX7_isWordAt_32, dX7_isWordAt_33, fl_X7_183, dX7_isWordAt_36, dX7_isWordAt_37, dX7_isWordAt_38, dX7_isWordAt_41, dX7_isWordAt_42, dX7_isWordAt_43, st_bipush, dX7_isWordAt_45, dX7_isWordAt_48, dX7_isWordAt_49, dX7_isWordAt_50, fl_X7_186, dX7_isWordAt_53, dX7_isWordAt_56, dX7_isWordAt_57, fl_X7_80, dX7_isWordAt_60, dX7_isWordAt_61, fl_X7_189, dX7_isWordAt_64, dX7_isWordAt_65, dX7_isWordAt_66, st_laload, dX7_isWordAt_67, st_l2i, dX7_isWordAt_68, dX7_isWordAt_69, dX7_isWordAt_72, dX7_isWordAt_73, dX7_isWordAt_74, dX7_isWordAt_77, dX7_isWordAt_80, dX7_isWordAt_83, dX7_isWordAt_86, dX7_isWordAt_87, dX7_isWordAt_90, dX7_isWordAt_91, dX7_isWordAt_92, dX7_isWordAt_94, dX7_isWordAt_97, dX7_isWordAt_98, dX7_isWordAt_101, dX7_isWordAt_102, st_ireturn, ofI_0, ofJ_1, ofI_32, hp1, hp2, hp3, xwp_s, xcu_s, xcu_n, xPc_e, xsub_0, xsub_n, xsub_s, k4, kn, nI_00, show zcC 0 = 0 from rfl]
  try simp
theorem rX7_isWordAt : ∀ as σ, pX7_isWordAt as σ → ∃ K as', as = .ref K :: as' ∧ xob WM K 7 := by
  rintro as σ ⟨x, rfl, hpre⟩
  exact ⟨_, _, rfl, by first | exact hpre | exact hpre.1 | exact obT hpre | exact obT hpre.1 | exact obS hpre | exact obS hpre.1 | exact obM | exact ob6 | exact ob2 | exact ob0⟩
