/-! strangers -/
def drA (τ : xS) : xS := xI τ 0 4 (sdN (τ.1 0 4))
def dwV (τ : xS) (n : Int32) : Int32 := xrem (xushr (sdN (τ.1 0 4)) 16) n
theorem fX7_draw_n {n : Int32} {σ : xS} : fX7_draw [.ref 0, .int n] σ = (some (.int (dwV σ n)), drA σ) := rfl
theorem xush_b (x : Int32) : ∃ n : Nat, n < 65536 ∧ xushr x 16 = nI n := by
  have e : ((16 : Int32).toUInt32 &&& Int32.toUInt32 31) = 16 := by decide
  have h : (x.toUInt32 >>> 16).toNat = x.toUInt32.toNat >>> 16 := by rw [UInt32.toNat_shiftRight]; rfl
  have k : ∀ u : UInt32, u.toInt32 = nI u.toNat := fun u => by
    show (⟨u⟩ : Int32) = ⟨UInt32.ofNat u.toNat⟩
    rw [UInt32.ofNat_toNat]
  refine ⟨(x.toUInt32 >>> 16).toNat, ?_, ?_⟩
  · have h3 := x.toUInt32.toNat_lt
    rw [h, Nat.shiftRight_eq_div_pow]
    omega
  · unfold xushr
    rw [e]
    exact k _
theorem dw_b {τ : xS} {n : Nat} (h0 : 0 < n) (hn : n < 65536) : ∃ k, k < n ∧ dwV τ (nI n) = nI k := by
  obtain ⟨m, h1, h2⟩ := xush_b (sdN (τ.1 0 4))
  refine ⟨m % n, Nat.mod_lt _ h0, ?_⟩
  unfold dwV
  rw [h2]
  exact xrem_n (by omega) h0 (by omega)
def sdM (τ : xS) : Nat → xS
  | 0 => τ
  | i + 1 => drA (sdM τ i)
theorem sdM_s {τ : xS} {i : Nat} : drA (sdM τ i) = sdM τ (i + 1) := rfl
theorem sdM_0 {τ : xS} : sdM τ 0 = τ := rfl
theorem drA_o {τ : xS} {a c : Nat} (h : a ≠ 0 ∨ c ≠ 4) : (drA τ).1 a c = τ.1 a c := by unfold drA; rw [xI_n (by omega)]
theorem sdM_o {τ : xS} {a c : Nat} (h : a ≠ 0 ∨ c ≠ 4) : ∀ {i : Nat}, (sdM τ i).1 a c = τ.1 a c
  | 0 => rfl
  | i + 1 => by rw [← sdM_s, drA_o h]; exact sdM_o h
theorem itM_e {σ τ : xS} {p : Int32} (h1 : τ.1 0 1 = σ.1 0 1) (h2 : ∀ i, τ.1 13 i = σ.1 13 i) : itM τ p = itM σ p := by
  unfold itM
  rw [h1, show tkP τ p = tkP σ p from funext fun i => by unfold tkP; rw [h2]]
def plM (τ : xS) (i : Nat) : Int32 := dwV (sdM τ i) 49
theorem plM_f {τ : xS} {i : Nat} : dwV (sdM τ i) 49 = plM τ i := rfl
def dfM (τ : xS) (i : Nat) : Bool := decide (τ.1 10 (tn (plM τ i)) = 0 ∧ itM τ (plM τ i) = false)
theorem plM_b {τ : xS} {i : Nat} : (0 ≤ plM τ i ∧ tn (plM τ i) < 49) ∧ ¬ plM τ i = -1 := by
  obtain ⟨k, h1, h2⟩ := dw_b (τ := sdM τ i) (n := 49) (by omega) (by omega)
  have h3 : plM τ i = nI k := h2
  have h0 : 0 ≤ nI k := nI_pos' (by omega)
  rw [h3, tn_nI (by omega)]
  refine ⟨⟨h0, h1⟩, fun q => ?_⟩
  rw [q] at h0
  exact absurd h0 (by decide)
def smS (τ : xS) (i : Nat) : xS := adM (drA (drA (sdM τ (i + 1)))) 0 (plM τ i) (dwV (sdM τ (i + 1)) 4) (dwV (drA (sdM τ (i + 1))) (τ.1 0 0)) 0
def sm1 (F : Int32 × xS) (f : Nat) : Int32 × xS := if F.2.1 0 1 < 6 then (if f < 100 then (F.1 + 1, smS F.2 f) else (F.1, sdM F.2 100)) else F
def smF (σ : xS) : Nat → Int32 × xS
  | 0 => (0, σ)
  | k + 1 => sm1 (smF σ k) (xfs (dfM (smF σ k).2) 100)
theorem smF_s {σ : xS} {k : Nat} : smF σ (k + 1) = sm1 (smF σ k) (xfs (dfM (smF σ k).2) 100) := rfl
theorem adM_1 {σ : xS} {k p d g a : Int32} : (adM σ k p d g a).1 0 1 = σ.1 0 1 + 1 := by unfold adM; rw [xI_s]
theorem adM_0 {σ : xS} {k p d g a : Int32} {c : Nat} (h : c ≠ 1) : (adM σ k p d g a).1 0 c = σ.1 0 c := by
  unfold adM
  rw [xI_n (by omega), xI_n (by omega), xI_n (by omega), xI_n (by omega), xI_n (by omega), xI_n (by omega), xI_n (by omega), xI_n (by omega)]
theorem smS_1 {τ : xS} {i : Nat} : (smS τ i).1 0 1 = τ.1 0 1 + 1 := by unfold smS; rw [adM_1, drA_o (by omega), drA_o (by omega), sdM_o (by omega)]
theorem smS_0 {τ : xS} {i : Nat} : (smS τ i).1 0 0 = τ.1 0 0 := by unfold smS; rw [adM_0 (by omega), drA_o (by omega), drA_o (by omega), sdM_o (by omega)]
theorem sm1_k {F : Int32 × xS} {f : Nat} (h : (0 ≤ F.2.1 0 1 ∧ F.2.1 0 1 ≤ 6)) : (0 ≤ (sm1 F f).2.1 0 1 ∧ (sm1 F f).2.1 0 1 ≤ 6) ∧ (sm1 F f).2.1 0 0 = F.2.1 0 0 := by
  unfold sm1
  split
  · rename_i h1
    split
    · dsimp only
      rw [smS_1, smS_0]
      exact ⟨cnt_1 h.1 h1 (Or.inr rfl), rfl⟩
    · dsimp only
      rw [sdM_o (by omega), sdM_o (by omega)]
      exact ⟨h, rfl⟩
  · exact ⟨h, rfl⟩
theorem smF_k {σ : xS} (h : (0 ≤ σ.1 0 1 ∧ σ.1 0 1 ≤ 6)) : ∀ k, (0 ≤ (smF σ k).2.1 0 1 ∧ (smF σ k).2.1 0 1 ≤ 6) ∧ (smF σ k).2.1 0 0 = σ.1 0 0
  | 0 => ⟨h, rfl⟩
  | k + 1 => by
    have ih := smF_k h k
    have := sm1_k (f := xfs (dfM (smF σ k).2) 100) ih.1
    rw [smF_s]
    exact ⟨this.1, this.2.trans ih.2⟩
theorem smF_end {σ : xS} {k : Nat} (h : ¬ (smF σ k).2.1 0 1 < 6) : ∀ j, smF σ (k + j) = smF σ k
  | 0 => rfl
  | j + 1 => by
    have e : smF σ (k + (j + 1)) = sm1 (smF σ (k + j)) (xfs (dfM (smF σ (k + j)).2) 100) := rfl
    rw [e, smF_end h j, sm1, if_neg h]
def strM (σ : xS) (n : Int32) : Int32 × xS := if σ.1 0 0 = 0 then noM σ (-5) else if n < 1 ∨ 6 < n then noM σ (-6) else smF σ (tn n)
theorem i100 : ((100 : Int32) ≤ nI 0) = False := eq_false (by decide)
def pX7_strangers (as : List Value) (σ : xS) : Prop := ∃ (n : Int32), as = [.ref 0, .int n] ∧ ((0 ≤ σ.1 0 1) ∧ (σ.1 0 1 ≤ 6))
def fX7_strangers (as : List Value) (σ : xS) : Option Value × xS := match as with
  | [.ref 0, .int n] => (some (.int (strM σ n).1), (strM σ n).2)
  | _ => (none, σ)
theorem pX7_strangers_e {n : Int32} {σ : xS} : pX7_strangers [.ref 0, .int n] σ = ((0 ≤ σ.1 0 1) ∧ (σ.1 0 1 ≤ 6)) := propext ⟨fun h => by obtain ⟨n, e, h⟩ := h; cases e; exact h, fun h => ⟨n, rfl, h⟩⟩
theorem fX7_strangers_e {n : Int32} {σ : xS} : fX7_strangers [.ref 0, .int n] σ = (some (.int (strM σ n).1), (strM σ n).2) := rfl
def calX7_strangers : List (Nat × xCall) := [(136, (false, 2, pX7_no, fX7_no)), (327, (false, 2, pX7_draw, fX7_draw)), (177, (false, 2, pX7_isTaken, fX7_isTaken)), (170, (false, 6, pX7_adds, fX7_adds))]
theorem c_X7_strangers_136 : xlk calX7_strangers 136 = some (false, 2, pX7_no, fX7_no) := rfl
theorem c_X7_strangers_327 : xlk calX7_strangers 327 = some (false, 2, pX7_draw, fX7_draw) := rfl
theorem c_X7_strangers_177 : xlk calX7_strangers 177 = some (false, 2, pX7_isTaken, fX7_isTaken) := rfl
theorem c_X7_strangers_170 : xlk calX7_strangers 170 = some (false, 6, pX7_adds, fX7_adds) := rfl
set_option maxHeartbeats 1000000 in
set_option maxRecDepth 100000 in
theorem mX7_strangers : xMet WM yX7_strangers cX7_strangers 7 (some .int) 3 pX7_strangers fX7_strangers := by
  refine xMet_of (fld := xlk fldX7) (cal := xlk calX7_strangers) (ks := xlk []) (gs := xlk []) (ro := fun _ => none) 0 (by decide) WM_nd rfl fldX7_ok xKs_nil xGs_nil (Or.inr rfl) (xcal_cons (xCk_V mX7_no 7 (by decide) (by decide) (by decide) rfl (fun as σ h _ => rX7_no as σ h) w_X7_136 ⟨by decide, by decide, by decide +kernel⟩) (xcal_cons (xCk_V mX7_draw 7 (by decide) (by decide) (by decide) rfl (fun as σ h _ => rX7_draw as σ h) w_X7_327 ⟨by decide, by decide, by decide +kernel⟩) (xcal_cons (xCk_V mX7_isTaken 7 (by decide) (by decide) (by decide) rfl (fun as σ h _ => rX7_isTaken as σ h) w_X7_177 ⟨by decide, by decide, by decide +kernel⟩) (xcal_cons (xCk_V mX7_adds 7 (by decide) (by decide) (by decide) rfl (fun as σ h _ => rX7_adds as σ h) w_X7_170 ⟨by decide, by decide, by decide +kernel⟩) xcal_nil)))) ?_ ?_
  · rintro av σ ⟨n, rfl, hpre⟩
    exact Nat.le_of_ble_eq_true rfl
  rintro av σ ⟨n, rfl, ⟨hp1, hp2⟩⟩ Rt hR
  have hR2 := hR2_g (Rt := Rt) (F := strM σ n) (fun r s' => by rw [hR, fX7_strangers_e])
  clear hR
  have h36 : (¬ σ.1 0 0 = 0 ∧ ¬ (n < 1 ∨ 6 < n)) → xGo WM 7 (xlk fldX7) (xlk calX7_strangers) (xlk []) (xlk []) (fun _ => none) 0 cX7_strangers Rt 36 [some (.ref 0), some (.int n), some (.int (smF σ 0).1), some (.int (nI 0)), none, none, none] [] (smF σ 0).2 := fun hg => by
    obtain ⟨hg1, hg2⟩ := hg
    have g0 : strM σ n = smF σ (tn n) := by rw [strM, if_neg hg1, if_neg hg2]
    rw [g0] at hR2
    have h6 : tn n ≤ 6 := xwk6 (Int32.not_lt.mp (fun q => hg2 (Or.inr q)))
    have nz49 : ¬ (49 : Int32) = 0 := by decide
    have nz4 : ¬ (4 : Int32) = 0 := by decide
    clear g0
    have h36 : ∀ k, k ≤ tn n → xGo WM 7 (xlk fldX7) (xlk calX7_strangers) (xlk []) (xlk []) (fun _ => none) 0 cX7_strangers Rt 36 [some (.ref 0), some (.int n), some (.int (smF σ k).1), some (.int (nI k)), none, none, none] [] ((smF σ k).2) := by
      refine xcount (tn n) (fun k => xGo WM 7 (xlk fldX7) (xlk calX7_strangers) (xlk []) (xlk []) (fun _ => none) 0 cX7_strangers Rt 36 [some (.ref 0), some (.int n), some (.int (smF σ k).1), some (.int (nI k)), none, none, none] [] ((smF σ k).2)) (fun k hk0 ih => ?_)
      have hc := le_nI_tn (i := k) (x := n) hk0
      have hk := smF_k ⟨hp1, hp2⟩ k
      have e0k : 0 ≤ nI k := nI_pos' (by omega)
      have e1k : nI k + 1 = nI (k + 1) := nI_1 k
      have e2k : tn (nI k) = k := tn_nI (by omega)
      have h69 : k < tn n → (smF σ k).2.1 0 1 < 6 → xGo WM 7 (xlk fldX7) (xlk calX7_strangers) (xlk []) (xlk []) (fun _ => none) 0 cX7_strangers Rt 69 [some (.ref 0), some (.int n), some (.int (smF σ k).1), some (.int (nI k)), some (.int (-1)), some (.int (nI 0)), none] [] (sdM (smF σ k).2 0) := fun hlt hlt6 => by
        have hs1 : smF σ (k + 1) = if xfs (dfM (smF σ k).2) 100 < 100 then ((smF σ k).1 + 1, smS (smF σ k).2 (xfs (dfM (smF σ k).2) 100)) else ((smF σ k).1, sdM (smF σ k).2 100) := by rw [smF_s, sm1, if_pos hlt6]
        have k0 := hk.1.1
        have kg := hk.2
        clear hk hc h6
        generalize hτ : (smF σ k).2 = τ at *
        generalize hcc : (smF σ k).1 = c at *
        clear hτ hcc
        have h115 : ∀ i, i ≤ 99 → dfM τ i = true → (∀ j, j < i → dfM τ j = false) → xGo WM 7 (xlk fldX7) (xlk calX7_strangers) (xlk []) (xlk []) (fun _ => none) 0 cX7_strangers Rt 115 [some (.ref 0), some (.int n), some (.int c), some (.int (nI k)), some (.int (plM τ i)), none, none] [] (sdM τ (i + 1)) := fun i hi ht hH => by
          have a1 : xfs (dfM τ) 100 = i := xfs_at (by omega) ht hH
          have hd : smF σ (k + 1) = (c + 1, smS τ i) := by rw [hs1, a1, if_pos (by omega)]
          have r3 : 0 ≤ (drA (drA (sdM τ (i + 1)))).1 0 1 := by rw [drA_o (by omega), drA_o (by omega), sdM_o (by omega)]; exact k0
          have r4 : (drA (drA (sdM τ (i + 1)))).1 0 1 < 6 := by rw [drA_o (by omega), drA_o (by omega), sdM_o (by omega)]; exact hlt6
          have r5 : (drA (sdM τ (i + 1))).1 0 0 = τ.1 0 0 := by rw [drA_o (by omega), sdM_o (by omega)]
          have hg0 : ¬ τ.1 0 0 = 0 := by rw [kg]; exact hg1
          have smS_f : adM (drA (drA (sdM τ (i + 1)))) 0 (plM τ i) (dwV (sdM τ (i + 1)) 4) (dwV (drA (sdM τ (i + 1))) (τ.1 0 0)) 0 = smS τ i := rfl
          have r1 := r3
          have r2 := r4
          refine xtoC [(36, xPc (True) [some (.ref 0), some (.int n), some (.int (smF σ (k + 1)).1), some (.int (nI (k + 1))), none, none, none] ((smF σ (k + 1)).2))] (xcs_cons (fun _ => ih hlt) xcs_nil) 40 (fun cf hcf => ?_)
          have k36 : cf 36 = some (xPc (True) [some (.ref 0), some (.int n), some (.int (smF σ (k + 1)).1), some (.int (nI (k + 1))), none, none, none] ((smF σ (k + 1)).2)) := (hcf 36).trans rfl
          have kn : ∀ pc, ¬ pc = 36 → cf pc = none := fun pc h0 => by rw [hcf, xlk_c, if_neg h0, xlk_n]
          clear hcf
          simp (config := {maxSteps := 4000000, implicitDefEqProofs := false}) only [xwp_2, xwp_0, xwp_1, xws_s, xdd_o, xld_0, xld_s, xs1_0, xs1_1, xs1_s, xs2_0, xs2_1, xs2_s, xlg_n, xlg_i, xlg_r, xlg_z, xlg_l, xf4_0, xf4_1, xf4_2, xf4_3, xgo_e, xcmp_eq, xcmp_ne, xcmp_lt, xcmp_ge, xcmp_gt, xcmp_le, xfg_0, xfg_1, xfg_2, xfg_3, xfg_4, xpop_0, xpop_s, xsw_n, xsw_c, xtb_n, xtb_c, xenp_n, xenp_i, xenp_r, xenp_z, xenp_l, xrep_0, xrep_s, Nat.reduceSub, true_and, and_true, cat_i, cat_r, Nat.reduceAdd, Nat.reduceLT, Nat.reduceLeDiff, Nat.reduceEqDiff, xnc, Int.reduceAdd, Int.reduceSub, Int.reduceNeg, Int.reduceLE, Int.reduceLT, Int.reduceToNat, ↓reduceIte, List.length_cons, List.length_nil, xlc0, xlc1, ite_10, i10, i01, i0_2, i0_3, i0_4, i0_6, i0_7, i0_8, i0_49, i0_10, or_true, true_or, or_false, false_or, not_false_eq_true, not_true_eq_false, xnt, xI_g, eq_self, xI_2, xJ_1, false_and, and_false, obM_t, rMi, vp_tn, tn_def, lgc, nI8, nI6, nI160, nI20, nI401, nI49, aM_6, aM_7, aM_8, aM_9, aM_10, aM_11, aM_12, aM_13, aM_14, aM_15, aM_16, aM_17, aM_18, aM_19, aM_20, aM_21, aM_22, aM_23, aM_24, aM_25, aM_26, aM_27, aM_28, aM_29, aM_30, aM_31, aM_38, aM_39, aM_40, aM_41, aM_42, aM_43, aM_44, aM_45, aM_46, aM_47, lM_6, lM_7, lM_8, lM_9, lM_10, lM_11, lM_12, lM_13, lM_14, lM_15, lM_16, lM_17, lM_18, lM_19, lM_20, lM_21, lM_22, lM_23, lM_24, lM_25, lM_26, lM_27, lM_28, lM_29, lM_30, lM_31, lM_38, lM_39, lM_40, lM_41, lM_42, lM_43, lM_44, lM_45, lM_46, lM_47, dX7_strangers_0, st_aload_n, dX7_strangers_1, st_getfield, fl_X7_129, dX7_strangers_4, st_ifCond, dX7_strangers_7, dX7_strangers_8, st_bipush, dX7_strangers_10, st_invokevirtual, dX7_strangers_13, st_ireturn, dX7_strangers_14, st_iload_n, dX7_strangers_15, st_iconst, dX7_strangers_16, st_if_icmp, dX7_strangers_19, dX7_strangers_20, dX7_strangers_22, dX7_strangers_25, dX7_strangers_26, dX7_strangers_28, dX7_strangers_31, dX7_strangers_32, dX7_strangers_33, st_istore_n, dX7_strangers_34, dX7_strangers_35, dX7_strangers_36, dX7_strangers_37, dX7_strangers_38, dX7_strangers_41, dX7_strangers_42, fl_X7_126, dX7_strangers_45, dX7_strangers_47, dX7_strangers_50, dX7_strangers_51, st_istore, dX7_strangers_53, dX7_strangers_54, dX7_strangers_56, st_iload, dX7_strangers_58, dX7_strangers_60, dX7_strangers_63, dX7_strangers_65, dX7_strangers_66, dX7_strangers_69, dX7_strangers_70, dX7_strangers_72, dX7_strangers_75, dX7_strangers_77, dX7_strangers_78, fl_X7_29, dX7_strangers_81, dX7_strangers_83, st_iaload, dX7_strangers_84, dX7_strangers_87, dX7_strangers_88, dX7_strangers_90, dX7_strangers_93, dX7_strangers_96, dX7_strangers_98, dX7_strangers_100, st_iinc, dX7_strangers_103, st_goto, dX7_strangers_106, dX7_strangers_108, dX7_strangers_109, dX7_strangers_112, dX7_strangers_115, dX7_strangers_116, dX7_strangers_117, dX7_strangers_120, dX7_strangers_122, dX7_strangers_123, dX7_strangers_124, dX7_strangers_126, dX7_strangers_128, dX7_strangers_129, dX7_strangers_130, dX7_strangers_133, dX7_strangers_136, dX7_strangers_137, dX7_strangers_140, st_pop, dX7_strangers_141, dX7_strangers_144, dX7_strangers_147, dX7_strangers_150, dX7_strangers_151, c_X7_strangers_136, pX7_no_e, fX7_no_e, Option.toList_some, Option.toList_none, List.cons_append, List.nil_append, c_X7_strangers_327, pX7_draw_e, fX7_draw_n, c_X7_strangers_177, pX7_isTaken_e, fX7_isTaken_e, c_X7_strangers_170, pX7_adds_e, fX7_adds_e, ofI_m5, ofJ_1, ofI_6, ofI_m6, ofI_0, ofI_m1, ofI_100, ofI_49, ofI_4, hp1, hp2, xwp_s, xcu_s, xcu_n, xPc_e, xsub_0, xsub_n, xsub_s, k36, kn, e1k, r1, r2, r3, r4, r5, hg0, nz4, smS_f]
          rw [hd]
          first | exact ⟨rfl, rfl, rfl⟩ | exact ⟨rfl, rfl⟩ | rfl | trivial
        have h36 : ∀ i, i = 99 → dfM τ i = false → (∀ j, j < i → dfM τ j = false) → xGo WM 7 (xlk fldX7) (xlk calX7_strangers) (xlk []) (xlk []) (fun _ => none) 0 cX7_strangers Rt 36 [some (.ref 0), some (.int n), some (.int (smF σ (k + 1)).1), some (.int (nI (k + 1))), none, none, none] [] (smF σ (k + 1)).2 := fun i _ _ _ => ih hlt
        have h69 : ∀ i, i ≤ 99 → (∀ j, j < i → dfM τ j = false) → xGo WM 7 (xlk fldX7) (xlk calX7_strangers) (xlk []) (xlk []) (fun _ => none) 0 cX7_strangers Rt 69 [some (.ref 0), some (.int n), some (.int c), some (.int (nI k)), some (.int (-1)), some (.int (nI i)), none] [] (sdM τ i) := by
          refine xcount (99) (fun i => (∀ j, j < i → dfM τ j = false) → xGo WM 7 (xlk fldX7) (xlk calX7_strangers) (xlk []) (xlk []) (fun _ => none) 0 cX7_strangers Rt 69 [some (.ref 0), some (.int n), some (.int c), some (.int (nI k)), some (.int (-1)), some (.int (nI i)), none] [] (sdM τ i)) (fun i hi ih69 hH => ?_)
          have hci : (100 : Int32) ≤ nI (i + 1) ↔ 99 ≤ i := Iff.trans (nI_leI (a := 100) (by omega) (by omega)) (by omega)
          have e0i : 0 ≤ nI i := nI_pos' (by omega)
          have e1i : nI i + 1 = nI (i + 1) := nI_1 i
          have e2i : tn (nI i) = i := tn_nI (by omega)
          have hpl0 := (plM_b (τ := τ) (i := i)).1.1
          have hpl1 := (plM_b (τ := τ) (i := i)).1.2
          have hpl2 := (plM_b (τ := τ) (i := i)).2
          have r1 : 0 ≤ (sdM τ (i + 1)).1 0 1 := by rw [sdM_o (by omega)]; exact k0
          have r2 : (sdM τ (i + 1)).1 0 1 ≤ 6 := by rw [sdM_o (by omega)]; exact Int32.le_of_lt hlt6
          have r6 : ∀ a, (sdM τ (i + 1)).1 10 a = τ.1 10 a := fun a => sdM_o (by omega)
          have r7 : ∀ p, itM (sdM τ (i + 1)) p = itM τ p := fun p => itM_e (sdM_o (by omega)) (fun j => sdM_o (by omega))
          refine xtoCs [(69, xPc (i < 99 ∧ (∀ j, j < (i + 1) → dfM τ j = false)) [some (.ref 0), some (.int n), some (.int c), some (.int (nI k)), some (.int (-1)), some (.int (nI (i + 1))), none] (sdM τ (i + 1))), (36, xPc (i = 99 ∧ dfM τ i = false) [some (.ref 0), some (.int n), some (.int (smF σ (k + 1)).1), some (.int (nI (k + 1))), none, none, none] ((smF σ (k + 1)).2)), (115, xPc (dfM τ i = true) [some (.ref 0), some (.int n), some (.int c), some (.int (nI k)), some (.int (plM τ i)), none, none] (sdM τ (i + 1)))] (xcs_cons (fun q => ih69 q.1 q.2) (xcs_cons (fun q => h36 i q.1 q.2 hH) (xcs_cons (fun q => h115 i hi q hH) xcs_nil))) 44 (fun cf hcf => ?_)
          have k69 : cf 69 = some (xPc (i < 99 ∧ (∀ j, j < (i + 1) → dfM τ j = false)) [some (.ref 0), some (.int n), some (.int c), some (.int (nI k)), some (.int (-1)), some (.int (nI (i + 1))), none] (sdM τ (i + 1))) := (hcf 69).trans rfl
          have k36 : cf 36 = some (xPc (i = 99 ∧ dfM τ i = false) [some (.ref 0), some (.int n), some (.int (smF σ (k + 1)).1), some (.int (nI (k + 1))), none, none, none] ((smF σ (k + 1)).2)) := (hcf 36).trans rfl
          have k115 : cf 115 = some (xPc (dfM τ i = true) [some (.ref 0), some (.int n), some (.int c), some (.int (nI k)), some (.int (plM τ i)), none, none] (sdM τ (i + 1))) := (hcf 115).trans rfl
          have kn : ∀ pc, ¬ pc = 69 → ¬ pc = 36 → ¬ pc = 115 → cf pc = none := fun pc h0 h1 h2 => by rw [hcf, xlk_c, if_neg h0, xlk_c, if_neg h1, xlk_c, if_neg h2, xlk_n]
          clear hcf
          simp (config := {maxSteps := 4000000, implicitDefEqProofs := false}) only [xwp_2, xwp_0, xwp_1, xws_s, xdd_o, xld_0, xld_s, xs1_0, xs1_1, xs1_s, xs2_0, xs2_1, xs2_s, xlg_n, xlg_i, xlg_r, xlg_z, xlg_l, xf4_0, xf4_1, xf4_2, xf4_3, xgo_e, xcmp_eq, xcmp_ne, xcmp_lt, xcmp_ge, xcmp_gt, xcmp_le, xfg_0, xfg_1, xfg_2, xfg_3, xfg_4, xpop_0, xpop_s, xsw_n, xsw_c, xtb_n, xtb_c, xenp_n, xenp_i, xenp_r, xenp_z, xenp_l, xrep_0, xrep_s, Nat.reduceSub, true_and, and_true, cat_i, cat_r, Nat.reduceAdd, Nat.reduceLT, Nat.reduceLeDiff, Nat.reduceEqDiff, xnc, Int.reduceAdd, Int.reduceSub, Int.reduceNeg, Int.reduceLE, Int.reduceLT, Int.reduceToNat, ↓reduceIte, List.length_cons, List.length_nil, xlc0, xlc1, ite_10, i10, i01, i0_2, i0_3, i0_4, i0_6, i0_7, i0_8, i0_49, i0_10, or_true, true_or, or_false, false_or, not_false_eq_true, not_true_eq_false, xnt, xI_g, eq_self, xI_2, xJ_1, false_and, and_false, obM_t, rMi, vp_tn, tn_def, lgc, nI8, nI6, nI160, nI20, nI401, nI49, aM_6, aM_7, aM_8, aM_9, aM_10, aM_11, aM_12, aM_13, aM_14, aM_15, aM_16, aM_17, aM_18, aM_19, aM_20, aM_21, aM_22, aM_23, aM_24, aM_25, aM_26, aM_27, aM_28, aM_29, aM_30, aM_31, aM_38, aM_39, aM_40, aM_41, aM_42, aM_43, aM_44, aM_45, aM_46, aM_47, lM_6, lM_7, lM_8, lM_9, lM_10, lM_11, lM_12, lM_13, lM_14, lM_15, lM_16, lM_17, lM_18, lM_19, lM_20, lM_21, lM_22, lM_23, lM_24, lM_25, lM_26, lM_27, lM_28, lM_29, lM_30, lM_31, lM_38, lM_39, lM_40, lM_41, lM_42, lM_43, lM_44, lM_45, lM_46, lM_47, dX7_strangers_0, st_aload_n, dX7_strangers_1, st_getfield, fl_X7_129, dX7_strangers_4, st_ifCond, dX7_strangers_7, dX7_strangers_8, st_bipush, dX7_strangers_10, st_invokevirtual, dX7_strangers_13, st_ireturn, dX7_strangers_14, st_iload_n, dX7_strangers_15, st_iconst, dX7_strangers_16, st_if_icmp, dX7_strangers_19, dX7_strangers_20, dX7_strangers_22, dX7_strangers_25, dX7_strangers_26, dX7_strangers_28, dX7_strangers_31, dX7_strangers_32, dX7_strangers_33, st_istore_n, dX7_strangers_34, dX7_strangers_35, dX7_strangers_36, dX7_strangers_37, dX7_strangers_38, dX7_strangers_41, dX7_strangers_42, fl_X7_126, dX7_strangers_45, dX7_strangers_47, dX7_strangers_50, dX7_strangers_51, st_istore, dX7_strangers_53, dX7_strangers_54, dX7_strangers_56, st_iload, dX7_strangers_58, dX7_strangers_60, dX7_strangers_63, dX7_strangers_65, dX7_strangers_66, dX7_strangers_69, dX7_strangers_70, dX7_strangers_72, dX7_strangers_75, dX7_strangers_77, dX7_strangers_78, fl_X7_29, dX7_strangers_81, dX7_strangers_83, st_iaload, dX7_strangers_84, dX7_strangers_87, dX7_strangers_88, dX7_strangers_90, dX7_strangers_93, dX7_strangers_96, dX7_strangers_98, dX7_strangers_100, st_iinc, dX7_strangers_103, st_goto, dX7_strangers_106, dX7_strangers_108, dX7_strangers_109, dX7_strangers_112, dX7_strangers_115, dX7_strangers_116, dX7_strangers_117, dX7_strangers_120, dX7_strangers_122, dX7_strangers_123, dX7_strangers_124, dX7_strangers_126, dX7_strangers_128, dX7_strangers_129, dX7_strangers_130, dX7_strangers_133, dX7_strangers_136, dX7_strangers_137, dX7_strangers_140, st_pop, dX7_strangers_141, dX7_strangers_144, dX7_strangers_147, dX7_strangers_150, dX7_strangers_151, c_X7_strangers_136, pX7_no_e, fX7_no_e, Option.toList_some, Option.toList_none, List.cons_append, List.nil_append, c_X7_strangers_327, pX7_draw_e, fX7_draw_n, c_X7_strangers_177, pX7_isTaken_e, fX7_isTaken_e, c_X7_strangers_170, pX7_adds_e, fX7_adds_e, ofI_m5, ofJ_1, ofI_6, ofI_m6, ofI_0, ofI_m1, ofI_100, ofI_49, ofI_4, hp1, hp2, xwp_s, xcu_s, xcu_n, xPc_e, xsub_0, xsub_n, xsub_s, k69, k36, k115, kn, nz49, plM_f, sdM_s, hpl0, hpl1, hpl2, r1, r2, r6, r7, e1i, e1k, hci]
          have e5 : dfM τ i = decide (τ.1 10 (tn (plM τ i)) = 0 ∧ itM τ (plM τ i) = false) := rfl
          have f0 : 99 ≤ i → i = 99 := fun h => by omega
          have f1 : dfM τ i = false → (∀ j, j < i + 1 → dfM τ j = false) := fun h2 => xall_s hH h2
          have f2 : i = 99 → dfM τ i = false → (smF σ (k + 1)).1 = c ∧ (smF σ (k + 1)).2 = sdM τ (i + 1) := fun h h2 => by
            have a1 : xfs (dfM τ) 100 = 100 := xfs_no (fun j hj => f1 h2 j (by omega))
            rw [hs1, a1, h]
            exact ⟨rfl, rfl⟩
          clear ih ih69 h115 h36 hs1 hci hR2
          generalize smF σ (k + 1) = F1 at *
          generalize itM τ (plM τ i) = it at *
          generalize sdM τ (i + 1) = S1 at *
          generalize τ.1 10 (tn (plM τ i)) = wl at *
          generalize plM τ i = pl at *
          grind (splits := 60)
        exact h69 0 (Nat.zero_le _) (fun j hj => by omega)
      refine xtoCs [(36, xPc (k < tn n) [some (.ref 0), some (.int n), some (.int (smF σ (k + 1)).1), some (.int (nI (k + 1))), none, none, none] ((smF σ (k + 1)).2)), (69, xPc (k < tn n ∧ (smF σ k).2.1 0 1 < 6) [some (.ref 0), some (.int n), some (.int (smF σ k).1), some (.int (nI k)), some (.int (-1)), some (.int (nI 0)), none] (sdM (smF σ k).2 0))] (xcs_cons (ih) (xcs_cons (fun q => h69 q.1 q.2) xcs_nil)) 18 (fun cf hcf => ?_)
      have k36 : cf 36 = some (xPc (k < tn n) [some (.ref 0), some (.int n), some (.int (smF σ (k + 1)).1), some (.int (nI (k + 1))), none, none, none] ((smF σ (k + 1)).2)) := (hcf 36).trans rfl
      have k69 : cf 69 = some (xPc (k < tn n ∧ (smF σ k).2.1 0 1 < 6) [some (.ref 0), some (.int n), some (.int (smF σ k).1), some (.int (nI k)), some (.int (-1)), some (.int (nI 0)), none] (sdM (smF σ k).2 0)) := (hcf 69).trans rfl
      have kn : ∀ pc, ¬ pc = 36 → ¬ pc = 69 → cf pc = none := fun pc h0 h1 => by rw [hcf, xlk_c, if_neg h0, xlk_c, if_neg h1, xlk_n]
      clear hcf
      simp (config := {maxSteps := 4000000, implicitDefEqProofs := false}) only [xwp_2, xwp_0, xwp_1, xws_s, xdd_o, xld_0, xld_s, xs1_0, xs1_1, xs1_s, xs2_0, xs2_1, xs2_s, xlg_n, xlg_i, xlg_r, xlg_z, xlg_l, xf4_0, xf4_1, xf4_2, xf4_3, xgo_e, xcmp_eq, xcmp_ne, xcmp_lt, xcmp_ge, xcmp_gt, xcmp_le, xfg_0, xfg_1, xfg_2, xfg_3, xfg_4, xpop_0, xpop_s, xsw_n, xsw_c, xtb_n, xtb_c, xenp_n, xenp_i, xenp_r, xenp_z, xenp_l, xrep_0, xrep_s, Nat.reduceSub, true_and, and_true, cat_i, cat_r, Nat.reduceAdd, Nat.reduceLT, Nat.reduceLeDiff, Nat.reduceEqDiff, xnc, Int.reduceAdd, Int.reduceSub, Int.reduceNeg, Int.reduceLE, Int.reduceLT, Int.reduceToNat, ↓reduceIte, List.length_cons, List.length_nil, xlc0, xlc1, ite_10, i10, i01, i0_2, i0_3, i0_4, i0_6, i0_7, i0_8, i0_49, i0_10, or_true, true_or, or_false, false_or, not_false_eq_true, not_true_eq_false, xnt, xI_g, eq_self, xI_2, xJ_1, false_and, and_false, obM_t, rMi, vp_tn, tn_def, lgc, nI8, nI6, nI160, nI20, nI401, nI49, aM_6, aM_7, aM_8, aM_9, aM_10, aM_11, aM_12, aM_13, aM_14, aM_15, aM_16, aM_17, aM_18, aM_19, aM_20, aM_21, aM_22, aM_23, aM_24, aM_25, aM_26, aM_27, aM_28, aM_29, aM_30, aM_31, aM_38, aM_39, aM_40, aM_41, aM_42, aM_43, aM_44, aM_45, aM_46, aM_47, lM_6, lM_7, lM_8, lM_9, lM_10, lM_11, lM_12, lM_13, lM_14, lM_15, lM_16, lM_17, lM_18, lM_19, lM_20, lM_21, lM_22, lM_23, lM_24, lM_25, lM_26, lM_27, lM_28, lM_29, lM_30, lM_31, lM_38, lM_39, lM_40, lM_41, lM_42, lM_43, lM_44, lM_45, lM_46, lM_47, dX7_strangers_0, st_aload_n, dX7_strangers_1, st_getfield, fl_X7_129, dX7_strangers_4, st_ifCond, dX7_strangers_7, dX7_strangers_8, st_bipush, dX7_strangers_10, st_invokevirtual, dX7_strangers_13, st_ireturn, dX7_strangers_14, st_iload_n, dX7_strangers_15, st_iconst, dX7_strangers_16, st_if_icmp, dX7_strangers_19, dX7_strangers_20, dX7_strangers_22, dX7_strangers_25, dX7_strangers_26, dX7_strangers_28, dX7_strangers_31, dX7_strangers_32, dX7_strangers_33, st_istore_n, dX7_strangers_34, dX7_strangers_35, dX7_strangers_36, dX7_strangers_37, dX7_strangers_38, dX7_strangers_41, dX7_strangers_42, fl_X7_126, dX7_strangers_45, dX7_strangers_47, dX7_strangers_50, dX7_strangers_51, st_istore, dX7_strangers_53, dX7_strangers_54, dX7_strangers_56, st_iload, dX7_strangers_58, dX7_strangers_60, dX7_strangers_63, dX7_strangers_65, dX7_strangers_66, dX7_strangers_69, dX7_strangers_70, dX7_strangers_72, dX7_strangers_75, dX7_strangers_77, dX7_strangers_78, fl_X7_29, dX7_strangers_81, dX7_strangers_83, st_iaload, dX7_strangers_84, dX7_strangers_87, dX7_strangers_88, dX7_strangers_90, dX7_strangers_93, dX7_strangers_96, dX7_strangers_98, dX7_strangers_100, st_iinc, dX7_strangers_103, st_goto, dX7_strangers_106, dX7_strangers_108, dX7_strangers_109, dX7_strangers_112, dX7_strangers_115, dX7_strangers_116, dX7_strangers_117, dX7_strangers_120, dX7_strangers_122, dX7_strangers_123, dX7_strangers_124, dX7_strangers_126, dX7_strangers_128, dX7_strangers_129, dX7_strangers_130, dX7_strangers_133, dX7_strangers_136, dX7_strangers_137, dX7_strangers_140, st_pop, dX7_strangers_141, dX7_strangers_144, dX7_strangers_147, dX7_strangers_150, dX7_strangers_151, c_X7_strangers_136, pX7_no_e, fX7_no_e, Option.toList_some, Option.toList_none, List.cons_append, List.nil_append, c_X7_strangers_327, pX7_draw_e, fX7_draw_n, c_X7_strangers_177, pX7_isTaken_e, fX7_isTaken_e, c_X7_strangers_170, pX7_adds_e, fX7_adds_e, ofI_m5, ofJ_1, ofI_6, ofI_m6, ofI_0, ofI_m1, ofI_100, ofI_49, ofI_4, hp1, hp2, xwp_s, xcu_s, xcu_n, xPc_e, xsub_0, xsub_n, xsub_s, k36, k69, kn, hc, sdM_0, i100]
      have fin : ¬ k < tn n → smF σ k = smF σ (tn n) := fun h => by rw [show k = tn n by omega]
      have fin2 : 6 ≤ (smF σ k).2.1 0 1 → smF σ k = smF σ (tn n) := fun h => by
        have := smF_end (σ := σ) (k := k) (Int32.not_lt.mpr h) (tn n - k)
        rw [show k + (tn n - k) = tn n by omega] at this
        exact this.symm
      have nl : ¬ 6 ≤ (smF σ k).2.1 0 1 → (smF σ k).2.1 0 1 < 6 := fun h => Int32.not_le.mp h
      simp only [hR2, nI_00]
      clear hR2 hc ih h69 hk
      generalize smF σ (tn n) = Z at *
      generalize smF σ k = F at *
      grind (splits := 40)
    exact h36 0 (Nat.zero_le _)
  have smz1 : (smF σ 0).1 = 0 := rfl
  have smz2 : (smF σ 0).2 = σ := rfl
  refine xtoC [(36, xPc (¬ σ.1 0 0 = 0 ∧ ¬ (n < 1 ∨ 6 < n)) [some (.ref 0), some (.int n), some (.int (smF σ 0).1), some (.int (nI 0)), none, none, none] ((smF σ 0).2))] (xcs_cons (h36) xcs_nil) 24 (fun cf hcf => ?_)
  have k36 : cf 36 = some (xPc (¬ σ.1 0 0 = 0 ∧ ¬ (n < 1 ∨ 6 < n)) [some (.ref 0), some (.int n), some (.int (smF σ 0).1), some (.int (nI 0)), none, none, none] ((smF σ 0).2)) := (hcf 36).trans rfl
  have kn : ∀ pc, ¬ pc = 36 → cf pc = none := fun pc h0 => by rw [hcf, xlk_c, if_neg h0, xlk_n]
  clear hcf
  simp (config := {maxSteps := 4000000, implicitDefEqProofs := false}) only [xwp_2, xwp_0, xwp_1, xws_s, xdd_o, xld_0, xld_s, xs1_0, xs1_1, xs1_s, xs2_0, xs2_1, xs2_s, xlg_n, xlg_i, xlg_r, xlg_z, xlg_l, xf4_0, xf4_1, xf4_2, xf4_3, xgo_e, xcmp_eq, xcmp_ne, xcmp_lt, xcmp_ge, xcmp_gt, xcmp_le, xfg_0, xfg_1, xfg_2, xfg_3, xfg_4, xpop_0, xpop_s, xsw_n, xsw_c, xtb_n, xtb_c, xenp_n, xenp_i, xenp_r, xenp_z, xenp_l, xrep_0, xrep_s, Nat.reduceSub, true_and, and_true, cat_i, cat_r, Nat.reduceAdd, Nat.reduceLT, Nat.reduceLeDiff, Nat.reduceEqDiff, xnc, Int.reduceAdd, Int.reduceSub, Int.reduceNeg, Int.reduceLE, Int.reduceLT, Int.reduceToNat, ↓reduceIte, List.length_cons, List.length_nil, xlc0, xlc1, ite_10, i10, i01, i0_2, i0_3, i0_4, i0_6, i0_7, i0_8, i0_49, i0_10, or_true, true_or, or_false, false_or, not_false_eq_true, not_true_eq_false, xnt, xI_g, eq_self, xI_2, xJ_1, false_and, and_false, obM_t, rMi, vp_tn, tn_def, lgc, nI8, nI6, nI160, nI20, nI401, nI49, aM_6, aM_7, aM_8, aM_9, aM_10, aM_11, aM_12, aM_13, aM_14, aM_15, aM_16, aM_17, aM_18, aM_19, aM_20, aM_21, aM_22, aM_23, aM_24, aM_25, aM_26, aM_27, aM_28, aM_29, aM_30, aM_31, aM_38, aM_39, aM_40, aM_41, aM_42, aM_43, aM_44, aM_45, aM_46, aM_47, lM_6, lM_7, lM_8, lM_9, lM_10, lM_11, lM_12, lM_13, lM_14, lM_15, lM_16, lM_17, lM_18, lM_19, lM_20, lM_21, lM_22, lM_23, lM_24, lM_25, lM_26, lM_27, lM_28, lM_29, lM_30, lM_31, lM_38, lM_39, lM_40, lM_41, lM_42, lM_43, lM_44, lM_45, lM_46, lM_47, dX7_strangers_0, st_aload_n, dX7_strangers_1, st_getfield, fl_X7_129, dX7_strangers_4, st_ifCond, dX7_strangers_7, dX7_strangers_8, st_bipush, dX7_strangers_10, st_invokevirtual, dX7_strangers_13, st_ireturn, dX7_strangers_14, st_iload_n, dX7_strangers_15, st_iconst, dX7_strangers_16, st_if_icmp, dX7_strangers_19, dX7_strangers_20, dX7_strangers_22, dX7_strangers_25, dX7_strangers_26, dX7_strangers_28, dX7_strangers_31, dX7_strangers_32, dX7_strangers_33, st_istore_n, dX7_strangers_34, dX7_strangers_35, dX7_strangers_36, dX7_strangers_37, dX7_strangers_38, dX7_strangers_41, dX7_strangers_42, fl_X7_126, dX7_strangers_45, dX7_strangers_47, dX7_strangers_50, dX7_strangers_51, st_istore, dX7_strangers_53, dX7_strangers_54, dX7_strangers_56, st_iload, dX7_strangers_58, dX7_strangers_60, dX7_strangers_63, dX7_strangers_65, dX7_strangers_66, dX7_strangers_69, dX7_strangers_70, dX7_strangers_72, dX7_strangers_75, dX7_strangers_77, dX7_strangers_78, fl_X7_29, dX7_strangers_81, dX7_strangers_83, st_iaload, dX7_strangers_84, dX7_strangers_87, dX7_strangers_88, dX7_strangers_90, dX7_strangers_93, dX7_strangers_96, dX7_strangers_98, dX7_strangers_100, st_iinc, dX7_strangers_103, st_goto, dX7_strangers_106, dX7_strangers_108, dX7_strangers_109, dX7_strangers_112, dX7_strangers_115, dX7_strangers_116, dX7_strangers_117, dX7_strangers_120, dX7_strangers_122, dX7_strangers_123, dX7_strangers_124, dX7_strangers_126, dX7_strangers_128, dX7_strangers_129, dX7_strangers_130, dX7_strangers_133, dX7_strangers_136, dX7_strangers_137, dX7_strangers_140, st_pop, dX7_strangers_141, dX7_strangers_144, dX7_strangers_147, dX7_strangers_150, dX7_strangers_151, c_X7_strangers_136, pX7_no_e, fX7_no_e, Option.toList_some, Option.toList_none, List.cons_append, List.nil_append, c_X7_strangers_327, pX7_draw_e, fX7_draw_n, c_X7_strangers_177, pX7_isTaken_e, fX7_isTaken_e, c_X7_strangers_170, pX7_adds_e, fX7_adds_e, ofI_m5, ofJ_1, ofI_6, ofI_m6, ofI_0, ofI_m1, ofI_100, ofI_49, ofI_4, hp1, hp2, xwp_s, xcu_s, xcu_n, xPc_e, xsub_0, xsub_n, xsub_s, k36, kn, nI_00, smz1, smz2, nbP_1, nbP_2, nbP_3, nbP_4, nbP_5, nbP_6, nbP_7]
  simp only [hR2, strM, noM]
  clear hR2 h36
  grind (splits := 40)
theorem rX7_strangers : ∀ as σ, pX7_strangers as σ → ∃ K as', as = .ref K :: as' ∧ xob WM K 7 := by
  rintro as σ ⟨n, rfl, hpre⟩
  exact ⟨_, _, rfl, by first | exact hpre | exact hpre.1 | exact obT hpre | exact obT hpre.1 | exact obS hpre | exact obS hpre.1 | exact obM | exact ob6 | exact ob2 | exact ob0⟩
