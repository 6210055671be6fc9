/-! the longs stay, whatever walks -/
theorem doM_2 {σ : xS} {w : Nat} : (doM σ w).2 = σ.2 := by
  unfold doM doA
  show (if _ then _ else _ : xS).2 = _
  split
  · split <;> rfl
  · split <;> rfl
theorem dm1_2 {σ : xS} : ∀ {i : Nat}, (dm1 i σ).2 = σ.2
  | 0 => rfl
  | i + 1 => by rw [dm1_s, doM_2]; exact dm1_2
theorem p2M_2 {σ : xS} {w : Nat} : (p2M σ w).2 = σ.2 := by
  unfold p2M p2B
  split
  · rfl
  · split <;> rfl
theorem pm2_2 {σ : xS} : ∀ {i : Nat}, (pm2 i σ).2 = σ.2
  | 0 => rfl
  | i + 1 => by rw [pm2_s, p2M_2]; exact pm2_2
theorem p3M_2 {n : Nat} {σ : xS} {w : Nat} : (p3M n σ w).2 = σ.2 := by
  unfold p3M p3B
  split
  · rfl
  · split <;> rfl
theorem pm3_2 {n : Nat} {σ : xS} : ∀ {i : Nat}, (pm3 n i σ).2 = σ.2
  | 0 => rfl
  | i + 1 => by rw [pm3_s, p3M_2]; exact pm3_2
theorem hsM_2 {σ : xS} : (hsM σ).2 = σ.2 := rfl
theorem beM_2 {σ : xS} : (beM σ).2 = σ.2 := by
  unfold beM beT2 beT1
  rw [pm3_2, hsM_2, pm2_2, hsM_2, dm1_2]
theorem gbM_2 {σ : xS} : ∀ {i : Nat}, (gbM i σ).2 = σ.2
  | 0 => rfl
  | i + 1 => by rw [gbM_s, beM_2]; exact gbM_2
theorem inM_2 {σ τ : xS} (h : τ.2 = σ.2) {s x : Int32} : inM τ s x = inM σ s x := by unfold inM; rw [h]
/-! sights that fit -/
def faP (T : xS) (p g : Int32) (v : Nat) : Bool := decide (T.1 13 v = p ∧ T.1 15 v = g)
def faV (T : xS) (p g : Int32) (v : Nat) : Int32 := if xany (faP T p g) v = true then 1 else 0
theorem faV_s {T : xS} {p g : Int32} {v : Nat} : faV T p g (v + 1) = if T.1 13 v = p ∧ T.1 15 v = g then 1 else faV T p g v := by
  unfold faV
  by_cases h : T.1 13 v = p ∧ T.1 15 v = g
  · rw [if_pos h, if_pos]
    rw [xany]
    have : faP T p g v = true := decide_eq_true h
    rw [this, Bool.or_true]
  · rw [if_neg h, xany]
    have : faP T p g v = false := decide_eq_false h
    rw [this, Bool.or_false]
theorem faV_0 {T : xS} {p g : Int32} : faV T p g 0 = 0 := rfl
def faM (T : xS) (p g : Int32) : Bool := xany (faP T p g) (tn (T.1 0 1))
def fiP (T : xS) (s : Int32) (b i : Nat) : Bool := decide (inM T s (3 * nI i) = nI b) && faM (gbM b T) (inM T s (3 * nI i + 1)) (inM T s (3 * nI i + 2))
def fiO (T : xS) (s : Int32) (n : Nat) : Nat → Int32
  | 0 => 0
  | b + 1 => snI (fiP T s b) (fiO T s n b) n
theorem fiO_0 {T : xS} {s : Int32} {n : Nat} : fiO T s n 0 = 0 := rfl
theorem fiO_s {T : xS} {s : Int32} {n b : Nat} : fiO T s n (b + 1) = snI (fiP T s b) (fiO T s n b) n := rfl
def fitsV (σ : xS) (s n : Int32) : Int32 := fiO (bgM σ) s (tn n) 401
def fitsT (σ : xS) : xS := baM (gbM 400 (bgM σ))
def pX7_fits (as : List Value) (σ : xS) : Prop := ∃ (s : Int32) (n : Int32), as = [.ref 0, .int s, .int n] ∧ ((0 ≤ σ.1 0 1) ∧ (σ.1 0 1 ≤ 6) ∧ (BOK (bgM σ)) ∧ (0 ≤ s ∧ s < 8) ∧ (n ≤ 10))
def fX7_fits (as : List Value) (σ : xS) : Option Value × xS := match as with
  | [.ref 0, .int s, .int n] => (some (.int ((fitsV σ s n, fitsT σ)).1), ((fitsV σ s n, fitsT σ)).2)
  | _ => (none, σ)
theorem pX7_fits_e {s : Int32} {n : Int32} {σ : xS} : pX7_fits [.ref 0, .int s, .int n] σ = ((0 ≤ σ.1 0 1) ∧ (σ.1 0 1 ≤ 6) ∧ (BOK (bgM σ)) ∧ (0 ≤ s ∧ s < 8) ∧ (n ≤ 10)) := propext ⟨fun h => by obtain ⟨s, n, e, h⟩ := h; cases e; exact h, fun h => ⟨s, n, rfl, h⟩⟩
theorem fX7_fits_e {s : Int32} {n : Int32} {σ : xS} : fX7_fits [.ref 0, .int s, .int n] σ = (some (.int ((fitsV σ s n, fitsT σ)).1), ((fitsV σ s n, fitsT σ)).2) := rfl
def calX7_fits : List (Nat × xCall) := [(290, (false, 1, pX7_begins, fX7_begins)), (284, (false, 1, pX7_beats1, fX7_beats1)), (157, (false, 3, pX7_intAt, fX7_intAt)), (296, (false, 1, pX7_backAgain, fX7_backAgain))]
theorem c_X7_fits_290 : xlk calX7_fits 290 = some (false, 1, pX7_begins, fX7_begins) := rfl
theorem c_X7_fits_284 : xlk calX7_fits 284 = some (false, 1, pX7_beats1, fX7_beats1) := rfl
theorem c_X7_fits_157 : xlk calX7_fits 157 = some (false, 3, pX7_intAt, fX7_intAt) := rfl
theorem c_X7_fits_296 : xlk calX7_fits 296 = some (false, 1, pX7_backAgain, fX7_backAgain) := rfl
set_option maxHeartbeats 1000000 in
set_option maxRecDepth 100000 in
theorem mX7_fits : xMet WM yX7_fits cX7_fits 8 (some .int) 4 pX7_fits fX7_fits := by
  refine xMet_of (fld := xlk fldX7) (cal := xlk calX7_fits) (ks := xlk []) (gs := xlk []) (ro := fun _ => none) 0 (by decide) WM_nd rfl fldX7_ok xKs_nil xGs_nil (Or.inr rfl) (xcal_cons (xCk_V mX7_begins 7 (by decide) (by decide) (by decide) rfl (fun as σ h _ => rX7_begins as σ h) w_X7_290 ⟨by decide, by decide, by decide +kernel⟩) (xcal_cons (xCk_V mX7_beats1 7 (by decide) (by decide) (by decide) rfl (fun as σ h _ => rX7_beats1 as σ h) w_X7_284 ⟨by decide, by decide, by decide +kernel⟩) (xcal_cons (xCk_V mX7_intAt 7 (by decide) (by decide) (by decide) rfl (fun as σ h _ => rX7_intAt as σ h) w_X7_157 ⟨by decide, by decide, by decide +kernel⟩) (xcal_cons (xCk_V mX7_backAgain 7 (by decide) (by decide) (by decide) rfl (fun as σ h _ => rX7_backAgain as σ h) w_X7_296 ⟨by decide, by decide, by decide +kernel⟩) xcal_nil)))) ?_ ?_
  · rintro av σ ⟨s, n, rfl, hpre⟩
    exact Nat.le_of_ble_eq_true rfl
  rintro av σ ⟨s, n, rfl, ⟨hp1, hp2, hp3, hp4, hp5⟩⟩ Rt hR
  have hR2 := hR2_g (Rt := Rt) (F := (fitsV σ s n, fitsT σ)) (fun r s' => by rw [hR, fX7_fits_e])
  have hR2 : ∀ v' t', Rt (some (.int v')) t' = (v' = fiO (bgM σ) s (tn n) 401 ∧ t' = baM (gbM 400 (bgM σ))) := fun v' t' => by
    rw [hR, fX7_fits_e]
    show (some (Value.int v') = some (Value.int (fiO (bgM σ) s (tn n) 401)) ∧ t' = baM (gbM 400 (bgM σ))) = _
    simp only [Option.some.injEq, Value.int.injEq]
  have hB := BOK_e hp3
  have hn10 := sn10 hp5
  have ib := fun j (hj : j ≤ 10) => ix3b hp4 (i := j) hj
  have hwk := xwk6 hp2
  have hcn : ∀ i, i ≤ tn n → (n ≤ nI i ↔ ¬ i < tn n) := fun i hi => le_nI_tn hi
  generalize hm : tn n = m at *
  generalize hT : bgM σ = T at *
  have hT0 : ∀ b, T.1 0 b = σ.1 0 b := fun b => by rw [← hT, bgM_k]
  have hin : ∀ b x, inM (gbM b T) s x = inM T s x := fun b x => inM_2 gbM_2
  have h27 : ∀ b, b ≤ 400 → xGo WM 8 (xlk fldX7) (xlk calX7_fits) (xlk []) (xlk []) (fun _ => none) 0 cX7_fits Rt 27 [some (.ref 0), some (.int s), some (.int n), some (.int (fiO T s m b)), some (.int (nI b)), none, none, none] [] (gbM b T) := by
    refine xcount (400) (fun b => xGo WM 8 (xlk fldX7) (xlk calX7_fits) (xlk []) (xlk []) (fun _ => none) 0 cX7_fits Rt 27 [some (.ref 0), some (.int s), some (.int n), some (.int (fiO T s m b)), some (.int (nI b)), none, none, none] [] (gbM b T)) (fun b hb ih => ?_)
    have e0b : 0 ≤ nI b := nI_pos' (by omega)
    have e1b : nI b + 1 = nI (b + 1) := nI_1 b
    have e2b : tn (nI b) = b := tn_nI (by omega)
    have c1 : (400 : Int32) < nI (b + 1) ↔ 400 ≤ b := Iff.trans (nI_ltI (a := 400) (by omega) (by omega)) (by omega)
    have c2 : ¬ nI (b + 1) ≤ 0 := fun q => by have := (nI_leI (b := 0) (by omega) (by omega)).mp q; omega
    have hBb := hB b
    have h30 : ∀ i, i ≤ m → xGo WM 8 (xlk fldX7) (xlk calX7_fits) (xlk []) (xlk []) (fun _ => none) 0 cX7_fits Rt 30 [some (.ref 0), some (.int s), some (.int n), some (.int (snI (fiP T s b) (fiO T s m b) i)), some (.int (nI b)), some (.int (nI i)), none, none] [] (gbM b T) := by
      refine xcount (m) (fun i => xGo WM 8 (xlk fldX7) (xlk calX7_fits) (xlk []) (xlk []) (fun _ => none) 0 cX7_fits Rt 30 [some (.ref 0), some (.int s), some (.int n), some (.int (snI (fiP T s b) (fiO T s m b) i)), some (.int (nI b)), some (.int (nI i)), none, none] [] (gbM b T)) (fun i hi ih2 => ?_)
      have e0i : 0 ≤ nI i := nI_pos' (by omega)
      have e1i : nI i + 1 = nI (i + 1) := nI_1 i
      have e2i : tn (nI i) = i := tn_nI (by omega)
      have hci := hcn i hi
      obtain ⟨⟨w1, w2⟩, ⟨w3, w4⟩, w5, w6⟩ := ib i (by omega)
      have h59 : i < m → inM T s (3 * nI i) = nI b → xGo WM 8 (xlk fldX7) (xlk calX7_fits) (xlk []) (xlk []) (fun _ => none) 0 cX7_fits Rt 59 [some (.ref 0), some (.int s), some (.int n), some (.int (snI (fiP T s b) (fiO T s m b) i)), some (.int (nI b)), some (.int (nI i)), some (.int (faV (gbM b T) (inM T s (3 * nI i + 1)) (inM T s (3 * nI i + 2)) 0)), some (.int (nI 0))] [] (gbM b T) := fun hlt hq => by
        have h59i : ∀ v, v ≤ tn (σ.1 0 1) → xGo WM 8 (xlk fldX7) (xlk calX7_fits) (xlk []) (xlk []) (fun _ => none) 0 cX7_fits Rt 59 [some (.ref 0), some (.int s), some (.int n), some (.int (snI (fiP T s b) (fiO T s m b) i)), some (.int (nI b)), some (.int (nI i)), some (.int (faV (gbM b T) (inM T s (3 * nI i + 1)) (inM T s (3 * nI i + 2)) v)), some (.int (nI v))] [] (gbM b T) := by
          refine xcount (tn (σ.1 0 1)) (fun v => xGo WM 8 (xlk fldX7) (xlk calX7_fits) (xlk []) (xlk []) (fun _ => none) 0 cX7_fits Rt 59 [some (.ref 0), some (.int s), some (.int n), some (.int (snI (fiP T s b) (fiO T s m b) i)), some (.int (nI b)), some (.int (nI i)), some (.int (faV (gbM b T) (inM T s (3 * nI i + 1)) (inM T s (3 * nI i + 2)) v)), some (.int (nI v))] [] (gbM b T)) (fun v hv ih3 => ?_)
          have hcv := le_nI_tn (i := v) (x := σ.1 0 1) hv
          have e0v : 0 ≤ nI v := nI_pos' (by omega)
          have e1v : nI v + 1 = nI (v + 1) := nI_1 v
          have e2v : tn (nI v) = v := tn_nI (by omega)
          refine xtoCs [(59, xPc (v < tn (σ.1 0 1)) [some (.ref 0), some (.int s), some (.int n), some (.int (snI (fiP T s b) (fiO T s m b) i)), some (.int (nI b)), some (.int (nI i)), some (.int (faV (gbM b T) (inM T s (3 * nI i + 1)) (inM T s (3 * nI i + 2)) (v + 1))), some (.int (nI (v + 1)))] (gbM b T)), (30, xPc (i < m) [some (.ref 0), some (.int s), some (.int n), some (.int (snI (fiP T s b) (fiO T s m b) (i + 1))), some (.int (nI b)), some (.int (nI (i + 1))), none, none] (gbM b T))] (xcs_cons (ih3) (xcs_cons (ih2) xcs_nil)) 50 (fun cf hcf => ?_)
          have k59 : cf 59 = some (xPc (v < tn (σ.1 0 1)) [some (.ref 0), some (.int s), some (.int n), some (.int (snI (fiP T s b) (fiO T s m b) i)), some (.int (nI b)), some (.int (nI i)), some (.int (faV (gbM b T) (inM T s (3 * nI i + 1)) (inM T s (3 * nI i + 2)) (v + 1))), some (.int (nI (v + 1)))] (gbM b T)) := (hcf 59).trans rfl
          have k30 : cf 30 = some (xPc (i < m) [some (.ref 0), some (.int s), some (.int n), some (.int (snI (fiP T s b) (fiO T s m b) (i + 1))), some (.int (nI b)), some (.int (nI (i + 1))), none, none] (gbM b T)) := (hcf 30).trans rfl
          have kn : ∀ pc, ¬ pc = 59 → ¬ pc = 30 → cf pc = none := fun pc h0 h1 => by rw [hcf, xlk_c, if_neg h0, xlk_c, if_neg h1, xlk_n]
          clear hcf
          simp (config := {maxSteps := 4000000, implicitDefEqProofs := false}) only [xwp_2, xwp_0, xwp_1, xws_s, xdd_o, xld_0, xld_s, xs1_0, xs1_1, xs1_s, xs2_0, xs2_1, xs2_s, xlg_n, xlg_i, xlg_r, xlg_z, xlg_l, xf4_0, xf4_1, xf4_2, xf4_3, xgo_e, xcmp_eq, xcmp_ne, xcmp_lt, xcmp_ge, xcmp_gt, xcmp_le, xfg_0, xfg_1, xfg_2, xfg_3, xfg_4, xpop_0, xpop_s, xsw_n, xsw_c, xtb_n, xtb_c, xenp_n, xenp_i, xenp_r, xenp_z, xenp_l, xrep_0, xrep_s, Nat.reduceSub, true_and, and_true, cat_i, cat_r, Nat.reduceAdd, Nat.reduceLT, Nat.reduceLeDiff, Nat.reduceEqDiff, xnc, Int.reduceAdd, Int.reduceSub, Int.reduceNeg, Int.reduceLE, Int.reduceLT, Int.reduceToNat, ↓reduceIte, List.length_cons, List.length_nil, xlc0, xlc1, ite_10, i10, i01, i0_2, i0_3, i0_4, i0_6, i0_7, i0_8, i0_49, i0_10, or_true, true_or, or_false, false_or, not_false_eq_true, not_true_eq_false, xnt, xI_g, eq_self, xI_2, xJ_1, false_and, and_false, obM_t, rMi, vp_tn, tn_def, lgc, nI8, nI6, nI160, nI20, nI401, nI49, aM_6, aM_7, aM_8, aM_9, aM_10, aM_11, aM_12, aM_13, aM_14, aM_15, aM_16, aM_17, aM_18, aM_19, aM_20, aM_21, aM_22, aM_23, aM_24, aM_25, aM_26, aM_27, aM_28, aM_29, aM_30, aM_31, aM_38, aM_39, aM_40, aM_41, aM_42, aM_43, aM_44, aM_45, aM_46, aM_47, lM_6, lM_7, lM_8, lM_9, lM_10, lM_11, lM_12, lM_13, lM_14, lM_15, lM_16, lM_17, lM_18, lM_19, lM_20, lM_21, lM_22, lM_23, lM_24, lM_25, lM_26, lM_27, lM_28, lM_29, lM_30, lM_31, lM_38, lM_39, lM_40, lM_41, lM_42, lM_43, lM_44, lM_45, lM_46, lM_47, dX7_fits_0, st_iconst, dX7_fits_1, st_istore_n, dX7_fits_2, st_aload_n, dX7_fits_3, st_invokevirtual, dX7_fits_6, dX7_fits_7, st_istore, dX7_fits_9, st_iload, dX7_fits_11, st_sipush, dX7_fits_14, st_if_icmp, dX7_fits_17, dX7_fits_19, st_ifCond, dX7_fits_22, dX7_fits_23, dX7_fits_26, st_pop, dX7_fits_27, dX7_fits_28, dX7_fits_30, dX7_fits_32, st_iload_n, dX7_fits_33, dX7_fits_36, dX7_fits_37, dX7_fits_38, dX7_fits_39, dX7_fits_41, st_imul, dX7_fits_42, dX7_fits_45, dX7_fits_47, dX7_fits_50, st_goto, dX7_fits_53, dX7_fits_54, dX7_fits_56, dX7_fits_57, dX7_fits_59, dX7_fits_61, dX7_fits_62, st_getfield, fl_X7_126, dX7_fits_65, dX7_fits_68, dX7_fits_69, fl_X7_38, dX7_fits_72, dX7_fits_74, st_iaload, dX7_fits_75, dX7_fits_76, dX7_fits_77, dX7_fits_78, dX7_fits_80, dX7_fits_81, dX7_fits_82, st_iadd, dX7_fits_83, dX7_fits_86, dX7_fits_89, dX7_fits_90, fl_X7_44, dX7_fits_93, dX7_fits_95, dX7_fits_96, dX7_fits_97, dX7_fits_98, dX7_fits_99, dX7_fits_101, dX7_fits_102, dX7_fits_103, dX7_fits_104, dX7_fits_107, dX7_fits_110, dX7_fits_111, dX7_fits_113, st_iinc, dX7_fits_116, dX7_fits_119, dX7_fits_121, dX7_fits_124, dX7_fits_127, dX7_fits_130, dX7_fits_133, dX7_fits_136, dX7_fits_139, dX7_fits_140, dX7_fits_143, dX7_fits_144, st_ireturn, c_X7_fits_290, pX7_begins_e, fX7_begins_e, Option.toList_some, Option.toList_none, List.cons_append, List.nil_append, c_X7_fits_284, pX7_beats1_e, fX7_beats1_e, c_X7_fits_157, pX7_intAt_e, fX7_intAt_e, c_X7_fits_296, pX7_backAgain_e, fX7_backAgain_e, ofI_0, ofI_400, ofJ_3, ofJ_1, ofJ_2, hp1, hp2, hp3, hp4, hp5, xwp_s, xcu_s, xcu_n, xPc_e, xsub_0, xsub_n, xsub_s, k59, k30, kn, hcv, e0v, e1v, e2v, e1i, gbM_k, hT0, hin, w3, w4, w5, w6]
          have e5 := faV_s (T := gbM b T) (p := inM T s (3 * nI i + 1)) (g := inM T s (3 * nI i + 2)) (v := v)
          have e6 : tn (σ.1 0 1) ≤ v → fiP T s b i = decide (faV (gbM b T) (inM T s (3 * nI i + 1)) (inM T s (3 * nI i + 2)) v = 1) := fun h => by
            have h7 : tn ((gbM b T).1 0 1) = v := by rw [gbM_k, hT0]; omega
            unfold fiP faM faV
            rw [h7, hq, decide_eq_true (rfl : nI b = nI b), Bool.true_and]
            cases xany (faP (gbM b T) (inM T s (3 * nI i + 1)) (inM T s (3 * nI i + 2))) v <;> rfl
          have e7 : faV (gbM b T) (inM T s (3 * nI i + 1)) (inM T s (3 * nI i + 2)) v = 0 ∨ faV (gbM b T) (inM T s (3 * nI i + 1)) (inM T s (3 * nI i + 2)) v = 1 := by
            unfold faV; split; exact Or.inr rfl; exact Or.inl rfl
          have h6 : v < tn (σ.1 0 1) → v < 6 := fun h => by omega
          rw [e5, snI_s]
          clear ih3 ih2 hcv e5 hR w1 w2 w3 w4 w5 w6
          generalize faV (gbM b T) (inM T s (3 * nI i + 1)) (inM T s (3 * nI i + 2)) v = fv at *
          generalize snI (fiP T s b) (fiO T s m b) i = acc at *
          generalize fiP T s b i = fp at *
          generalize (gbM b T).1 13 v = x1 at *
          generalize (gbM b T).1 15 v = x2 at *
          generalize inM T s (3 * nI i + 1) = x3 at *
          generalize inM T s (3 * nI i + 2) = x4 at *
          generalize hN0 : tn (σ.1 0 1) = N0 at *
          clear kn k59 k30 hT hT0 hin hB hBb hp1 hp2 hp3 hp4 hp5 hcn ib hR2
          repeat' (first | refine And.intro ?_ ?_ | intro _)
          all_goals grind (splits := 20)
        exact h59i 0 (Nat.zero_le _)
      refine xtoCs [(30, xPc (i < m) [some (.ref 0), some (.int s), some (.int n), some (.int (snI (fiP T s b) (fiO T s m b) (i + 1))), some (.int (nI b)), some (.int (nI (i + 1))), none, none] (gbM b T)), (27, xPc (b < 400) [some (.ref 0), some (.int s), some (.int n), some (.int (fiO T s m (b + 1))), some (.int (nI (b + 1))), none, none, none] (gbM (b + 1) T)), (59, xPc (i < m ∧ inM T s (3 * nI i) = nI b) [some (.ref 0), some (.int s), some (.int n), some (.int (snI (fiP T s b) (fiO T s m b) i)), some (.int (nI b)), some (.int (nI i)), some (.int (faV (gbM b T) (inM T s (3 * nI i + 1)) (inM T s (3 * nI i + 2)) 0)), some (.int (nI 0))] (gbM b T))] (xcs_cons (ih2) (xcs_cons (ih) (xcs_cons (fun q => h59 q.1 q.2) xcs_nil))) 50 (fun cf hcf => ?_)
      have k30 : cf 30 = some (xPc (i < m) [some (.ref 0), some (.int s), some (.int n), some (.int (snI (fiP T s b) (fiO T s m b) (i + 1))), some (.int (nI b)), some (.int (nI (i + 1))), none, none] (gbM b T)) := (hcf 30).trans rfl
      have k27 : cf 27 = some (xPc (b < 400) [some (.ref 0), some (.int s), some (.int n), some (.int (fiO T s m (b + 1))), some (.int (nI (b + 1))), none, none, none] (gbM (b + 1) T)) := (hcf 27).trans rfl
      have k59 : cf 59 = some (xPc (i < m ∧ inM T s (3 * nI i) = nI b) [some (.ref 0), some (.int s), some (.int n), some (.int (snI (fiP T s b) (fiO T s m b) i)), some (.int (nI b)), some (.int (nI i)), some (.int (faV (gbM b T) (inM T s (3 * nI i + 1)) (inM T s (3 * nI i + 2)) 0)), some (.int (nI 0))] (gbM b T)) := (hcf 59).trans rfl
      have kn : ∀ pc, ¬ pc = 30 → ¬ pc = 27 → ¬ pc = 59 → cf pc = none := fun pc h0 h1 h2 => by rw [hcf, xlk_c, if_neg h0, xlk_c, if_neg h1, xlk_c, if_neg h2, xlk_n]
      clear hcf
      simp (config := {maxSteps := 4000000, implicitDefEqProofs := false}) only [xwp_2, xwp_0, xwp_1, xws_s, xdd_o, xld_0, xld_s, xs1_0, xs1_1, xs1_s, xs2_0, xs2_1, xs2_s, xlg_n, xlg_i, xlg_r, xlg_z, xlg_l, xf4_0, xf4_1, xf4_2, xf4_3, xgo_e, xcmp_eq, xcmp_ne, xcmp_lt, xcmp_ge, xcmp_gt, xcmp_le, xfg_0, xfg_1, xfg_2, xfg_3, xfg_4, xpop_0, xpop_s, xsw_n, xsw_c, xtb_n, xtb_c, xenp_n, xenp_i, xenp_r, xenp_z, xenp_l, xrep_0, xrep_s, Nat.reduceSub, true_and, and_true, cat_i, cat_r, Nat.reduceAdd, Nat.reduceLT, Nat.reduceLeDiff, Nat.reduceEqDiff, xnc, Int.reduceAdd, Int.reduceSub, Int.reduceNeg, Int.reduceLE, Int.reduceLT, Int.reduceToNat, ↓reduceIte, List.length_cons, List.length_nil, xlc0, xlc1, ite_10, i10, i01, i0_2, i0_3, i0_4, i0_6, i0_7, i0_8, i0_49, i0_10, or_true, true_or, or_false, false_or, not_false_eq_true, not_true_eq_false, xnt, xI_g, eq_self, xI_2, xJ_1, false_and, and_false, obM_t, rMi, vp_tn, tn_def, lgc, nI8, nI6, nI160, nI20, nI401, nI49, aM_6, aM_7, aM_8, aM_9, aM_10, aM_11, aM_12, aM_13, aM_14, aM_15, aM_16, aM_17, aM_18, aM_19, aM_20, aM_21, aM_22, aM_23, aM_24, aM_25, aM_26, aM_27, aM_28, aM_29, aM_30, aM_31, aM_38, aM_39, aM_40, aM_41, aM_42, aM_43, aM_44, aM_45, aM_46, aM_47, lM_6, lM_7, lM_8, lM_9, lM_10, lM_11, lM_12, lM_13, lM_14, lM_15, lM_16, lM_17, lM_18, lM_19, lM_20, lM_21, lM_22, lM_23, lM_24, lM_25, lM_26, lM_27, lM_28, lM_29, lM_30, lM_31, lM_38, lM_39, lM_40, lM_41, lM_42, lM_43, lM_44, lM_45, lM_46, lM_47, dX7_fits_0, st_iconst, dX7_fits_1, st_istore_n, dX7_fits_2, st_aload_n, dX7_fits_3, st_invokevirtual, dX7_fits_6, dX7_fits_7, st_istore, dX7_fits_9, st_iload, dX7_fits_11, st_sipush, dX7_fits_14, st_if_icmp, dX7_fits_17, dX7_fits_19, st_ifCond, dX7_fits_22, dX7_fits_23, dX7_fits_26, st_pop, dX7_fits_27, dX7_fits_28, dX7_fits_30, dX7_fits_32, st_iload_n, dX7_fits_33, dX7_fits_36, dX7_fits_37, dX7_fits_38, dX7_fits_39, dX7_fits_41, st_imul, dX7_fits_42, dX7_fits_45, dX7_fits_47, dX7_fits_50, st_goto, dX7_fits_53, dX7_fits_54, dX7_fits_56, dX7_fits_57, dX7_fits_59, dX7_fits_61, dX7_fits_62, st_getfield, fl_X7_126, dX7_fits_65, dX7_fits_68, dX7_fits_69, fl_X7_38, dX7_fits_72, dX7_fits_74, st_iaload, dX7_fits_75, dX7_fits_76, dX7_fits_77, dX7_fits_78, dX7_fits_80, dX7_fits_81, dX7_fits_82, st_iadd, dX7_fits_83, dX7_fits_86, dX7_fits_89, dX7_fits_90, fl_X7_44, dX7_fits_93, dX7_fits_95, dX7_fits_96, dX7_fits_97, dX7_fits_98, dX7_fits_99, dX7_fits_101, dX7_fits_102, dX7_fits_103, dX7_fits_104, dX7_fits_107, dX7_fits_110, dX7_fits_111, dX7_fits_113, st_iinc, dX7_fits_116, dX7_fits_119, dX7_fits_121, dX7_fits_124, dX7_fits_127, dX7_fits_130, dX7_fits_133, dX7_fits_136, dX7_fits_139, dX7_fits_140, dX7_fits_143, dX7_fits_144, st_ireturn, c_X7_fits_290, pX7_begins_e, fX7_begins_e, Option.toList_some, Option.toList_none, List.cons_append, List.nil_append, c_X7_fits_284, pX7_beats1_e, fX7_beats1_e, c_X7_fits_157, pX7_intAt_e, fX7_intAt_e, c_X7_fits_296, pX7_backAgain_e, fX7_backAgain_e, ofI_0, ofI_400, ofJ_3, ofJ_1, ofJ_2, hp1, hp2, hp3, hp4, hp5, xwp_s, xcu_s, xcu_n, xPc_e, xsub_0, xsub_n, xsub_s, k30, k27, k59, kn, hci, e0i, e1i, e2i, e1b, c1, c2, gbM_k, hT0, hin, w1, w2, hBb, hp1, hp2, gbM_s]
      have fin : ¬ i < m → snI (fiP T s b) (fiO T s m b) i = fiO T s m (b + 1) := fun h => by rw [fiO_s, show i = m by omega]
      have e4 := snI_s (P := fiP T s b) (s0 := fiO T s m b) (i := i)
      have e5 : ¬ inM T s (3 * nI i) = nI b → fiP T s b i = false := fun h => by
        unfold fiP
        rw [decide_eq_false h, Bool.false_and]
      have e6 : faV (gbM b T) (inM T s (3 * nI i + 1)) (inM T s (3 * nI i + 2)) 0 = 0 := rfl
      have f1 : 400 ≤ b → b = 400 := fun h => by omega
      rw [e4, e6]
      simp only [hR2, nI_00]
      clear ih2 ih h59 hci c1 c2 w1 w2 e4 e6 hR hR2
      generalize snI (fiP T s b) (fiO T s m b) i = acc at *
      generalize fiP T s b i = fp at *
      generalize inM T s (3 * nI i) = x1 at *
      clear kn k27 k30 k59 hT hT0 hin hB hBb hp1 hp2 hp3 hp4 hp5 hcn ib
      repeat' (first | refine And.intro ?_ ?_ | intro _)
      all_goals grind (splits := 20)
    refine xtoCs [(27, xPc (b < 400) [some (.ref 0), some (.int s), some (.int n), some (.int (fiO T s m (b + 1))), some (.int (nI (b + 1))), none, none, none] (gbM (b + 1) T)), (30, xPc (True) [some (.ref 0), some (.int s), some (.int n), some (.int (snI (fiP T s b) (fiO T s m b) 0)), some (.int (nI b)), some (.int (nI 0)), none, none] (gbM b T))] (xcs_cons (ih) (xcs_cons (fun _ => h30 0 (Nat.zero_le _)) xcs_nil)) 6 (fun cf hcf => ?_)
    have k27 : cf 27 = some (xPc (b < 400) [some (.ref 0), some (.int s), some (.int n), some (.int (fiO T s m (b + 1))), some (.int (nI (b + 1))), none, none, none] (gbM (b + 1) T)) := (hcf 27).trans rfl
    have k30 : cf 30 = some (xPc (True) [some (.ref 0), some (.int s), some (.int n), some (.int (snI (fiP T s b) (fiO T s m b) 0)), some (.int (nI b)), some (.int (nI 0)), none, none] (gbM b T)) := (hcf 30).trans rfl
    have kn : ∀ pc, ¬ pc = 27 → ¬ pc = 30 → cf pc = none := fun pc h0 h1 => by rw [hcf, xlk_c, if_neg h0, xlk_c, if_neg h1, xlk_n]
    clear hcf
    simp (config := {maxSteps := 4000000, implicitDefEqProofs := false}) only [xwp_2, xwp_0, xwp_1, xws_s, xdd_o, xld_0, xld_s, xs1_0, xs1_1, xs1_s, xs2_0, xs2_1, xs2_s, xlg_n, xlg_i, xlg_r, xlg_z, xlg_l, xf4_0, xf4_1, xf4_2, xf4_3, xgo_e, xcmp_eq, xcmp_ne, xcmp_lt, xcmp_ge, xcmp_gt, xcmp_le, xfg_0, xfg_1, xfg_2, xfg_3, xfg_4, xpop_0, xpop_s, xsw_n, xsw_c, xtb_n, xtb_c, xenp_n, xenp_i, xenp_r, xenp_z, xenp_l, xrep_0, xrep_s, Nat.reduceSub, true_and, and_true, cat_i, cat_r, Nat.reduceAdd, Nat.reduceLT, Nat.reduceLeDiff, Nat.reduceEqDiff, xnc, Int.reduceAdd, Int.reduceSub, Int.reduceNeg, Int.reduceLE, Int.reduceLT, Int.reduceToNat, ↓reduceIte, List.length_cons, List.length_nil, xlc0, xlc1, ite_10, i10, i01, i0_2, i0_3, i0_4, i0_6, i0_7, i0_8, i0_49, i0_10, or_true, true_or, or_false, false_or, not_false_eq_true, not_true_eq_false, xnt, xI_g, eq_self, xI_2, xJ_1, false_and, and_false, obM_t, rMi, vp_tn, tn_def, lgc, nI8, nI6, nI160, nI20, nI401, nI49, aM_6, aM_7, aM_8, aM_9, aM_10, aM_11, aM_12, aM_13, aM_14, aM_15, aM_16, aM_17, aM_18, aM_19, aM_20, aM_21, aM_22, aM_23, aM_24, aM_25, aM_26, aM_27, aM_28, aM_29, aM_30, aM_31, aM_38, aM_39, aM_40, aM_41, aM_42, aM_43, aM_44, aM_45, aM_46, aM_47, lM_6, lM_7, lM_8, lM_9, lM_10, lM_11, lM_12, lM_13, lM_14, lM_15, lM_16, lM_17, lM_18, lM_19, lM_20, lM_21, lM_22, lM_23, lM_24, lM_25, lM_26, lM_27, lM_28, lM_29, lM_30, lM_31, lM_38, lM_39, lM_40, lM_41, lM_42, lM_43, lM_44, lM_45, lM_46, lM_47, dX7_fits_0, st_iconst, dX7_fits_1, st_istore_n, dX7_fits_2, st_aload_n, dX7_fits_3, st_invokevirtual, dX7_fits_6, dX7_fits_7, st_istore, dX7_fits_9, st_iload, dX7_fits_11, st_sipush, dX7_fits_14, st_if_icmp, dX7_fits_17, dX7_fits_19, st_ifCond, dX7_fits_22, dX7_fits_23, dX7_fits_26, st_pop, dX7_fits_27, dX7_fits_28, dX7_fits_30, dX7_fits_32, st_iload_n, dX7_fits_33, dX7_fits_36, dX7_fits_37, dX7_fits_38, dX7_fits_39, dX7_fits_41, st_imul, dX7_fits_42, dX7_fits_45, dX7_fits_47, dX7_fits_50, st_goto, dX7_fits_53, dX7_fits_54, dX7_fits_56, dX7_fits_57, dX7_fits_59, dX7_fits_61, dX7_fits_62, st_getfield, fl_X7_126, dX7_fits_65, dX7_fits_68, dX7_fits_69, fl_X7_38, dX7_fits_72, dX7_fits_74, st_iaload, dX7_fits_75, dX7_fits_76, dX7_fits_77, dX7_fits_78, dX7_fits_80, dX7_fits_81, dX7_fits_82, st_iadd, dX7_fits_83, dX7_fits_86, dX7_fits_89, dX7_fits_90, fl_X7_44, dX7_fits_93, dX7_fits_95, dX7_fits_96, dX7_fits_97, dX7_fits_98, dX7_fits_99, dX7_fits_101, dX7_fits_102, dX7_fits_103, dX7_fits_104, dX7_fits_107, dX7_fits_110, dX7_fits_111, dX7_fits_113, st_iinc, dX7_fits_116, dX7_fits_119, dX7_fits_121, dX7_fits_124, dX7_fits_127, dX7_fits_130, dX7_fits_133, dX7_fits_136, dX7_fits_139, dX7_fits_140, dX7_fits_143, dX7_fits_144, st_ireturn, c_X7_fits_290, pX7_begins_e, fX7_begins_e, Option.toList_some, Option.toList_none, List.cons_append, List.nil_append, c_X7_fits_284, pX7_beats1_e, fX7_beats1_e, c_X7_fits_157, pX7_intAt_e, fX7_intAt_e, c_X7_fits_296, pX7_backAgain_e, fX7_backAgain_e, ofI_0, ofI_400, ofJ_3, ofJ_1, ofJ_2, hp1, hp2, hp3, hp4, hp5, xwp_s, xcu_s, xcu_n, xPc_e, xsub_0, xsub_n, xsub_s, k27, k30, kn, nI_00]
    have z := snI_0 (P := fiP T s b) (s0 := fiO T s m b)
    rw [z]
    try simp
  refine xtoC [(27, xPc (True) [some (.ref 0), some (.int s), some (.int n), some (.int (fiO T s m 0)), some (.int (nI 0)), none, none, none] (gbM 0 T))] (xcs_cons (fun _ => h27 0 (Nat.zero_le _)) xcs_nil) 16 (fun cf hcf => ?_)
  have k27 : cf 27 = some (xPc (True) [some (.ref 0), some (.int s), some (.int n), some (.int (fiO T s m 0)), some (.int (nI 0)), none, none, none] (gbM 0 T)) := (hcf 27).trans rfl
  have kn : ∀ pc, ¬ pc = 27 → cf pc = none := fun pc h0 => by rw [hcf, xlk_c, if_neg h0, xlk_n]
  clear hcf
  simp (config := {maxSteps := 4000000, implicitDefEqProofs := false}) only [xwp_2, xwp_0, xwp_1, xws_s, xdd_o, xld_0, xld_s, xs1_0, xs1_1, xs1_s, xs2_0, xs2_1, xs2_s, xlg_n, xlg_i, xlg_r, xlg_z, xlg_l, xf4_0, xf4_1, xf4_2, xf4_3, xgo_e, xcmp_eq, xcmp_ne, xcmp_lt, xcmp_ge, xcmp_gt, xcmp_le, xfg_0, xfg_1, xfg_2, xfg_3, xfg_4, xpop_0, xpop_s, xsw_n, xsw_c, xtb_n, xtb_c, xenp_n, xenp_i, xenp_r, xenp_z, xenp_l, xrep_0, xrep_s, Nat.reduceSub, true_and, and_true, cat_i, cat_r, Nat.reduceAdd, Nat.reduceLT, Nat.reduceLeDiff, Nat.reduceEqDiff, xnc, Int.reduceAdd, Int.reduceSub, Int.reduceNeg, Int.reduceLE, Int.reduceLT, Int.reduceToNat, ↓reduceIte, List.length_cons, List.length_nil, xlc0, xlc1, ite_10, i10, i01, i0_2, i0_3, i0_4, i0_6, i0_7, i0_8, i0_49, i0_10, or_true, true_or, or_false, false_or, not_false_eq_true, not_true_eq_false, xnt, xI_g, eq_self, xI_2, xJ_1, false_and, and_false, obM_t, rMi, vp_tn, tn_def, lgc, nI8, nI6, nI160, nI20, nI401, nI49, aM_6, aM_7, aM_8, aM_9, aM_10, aM_11, aM_12, aM_13, aM_14, aM_15, aM_16, aM_17, aM_18, aM_19, aM_20, aM_21, aM_22, aM_23, aM_24, aM_25, aM_26, aM_27, aM_28, aM_29, aM_30, aM_31, aM_38, aM_39, aM_40, aM_41, aM_42, aM_43, aM_44, aM_45, aM_46, aM_47, lM_6, lM_7, lM_8, lM_9, lM_10, lM_11, lM_12, lM_13, lM_14, lM_15, lM_16, lM_17, lM_18, lM_19, lM_20, lM_21, lM_22, lM_23, lM_24, lM_25, lM_26, lM_27, lM_28, lM_29, lM_30, lM_31, lM_38, lM_39, lM_40, lM_41, lM_42, lM_43, lM_44, lM_45, lM_46, lM_47, dX7_fits_0, st_iconst, dX7_fits_1, st_istore_n, dX7_fits_2, st_aload_n, dX7_fits_3, st_invokevirtual, dX7_fits_6, dX7_fits_7, st_istore, dX7_fits_9, st_iload, dX7_fits_11, st_sipush, dX7_fits_14, st_if_icmp, dX7_fits_17, dX7_fits_19, st_ifCond, dX7_fits_22, dX7_fits_23, dX7_fits_26, st_pop, dX7_fits_27, dX7_fits_28, dX7_fits_30, dX7_fits_32, st_iload_n, dX7_fits_33, dX7_fits_36, dX7_fits_37, dX7_fits_38, dX7_fits_39, dX7_fits_41, st_imul, dX7_fits_42, dX7_fits_45, dX7_fits_47, dX7_fits_50, st_goto, dX7_fits_53, dX7_fits_54, dX7_fits_56, dX7_fits_57, dX7_fits_59, dX7_fits_61, dX7_fits_62, st_getfield, fl_X7_126, dX7_fits_65, dX7_fits_68, dX7_fits_69, fl_X7_38, dX7_fits_72, dX7_fits_74, st_iaload, dX7_fits_75, dX7_fits_76, dX7_fits_77, dX7_fits_78, dX7_fits_80, dX7_fits_81, dX7_fits_82, st_iadd, dX7_fits_83, dX7_fits_86, dX7_fits_89, dX7_fits_90, fl_X7_44, dX7_fits_93, dX7_fits_95, dX7_fits_96, dX7_fits_97, dX7_fits_98, dX7_fits_99, dX7_fits_101, dX7_fits_102, dX7_fits_103, dX7_fits_104, dX7_fits_107, dX7_fits_110, dX7_fits_111, dX7_fits_113, st_iinc, dX7_fits_116, dX7_fits_119, dX7_fits_121, dX7_fits_124, dX7_fits_127, dX7_fits_130, dX7_fits_133, dX7_fits_136, dX7_fits_139, dX7_fits_140, dX7_fits_143, dX7_fits_144, st_ireturn, c_X7_fits_290, pX7_begins_e, fX7_begins_e, Option.toList_some, Option.toList_none, List.cons_append, List.nil_append, c_X7_fits_284, pX7_beats1_e, fX7_beats1_e, c_X7_fits_157, pX7_intAt_e, fX7_intAt_e, c_X7_fits_296, pX7_backAgain_e, fX7_backAgain_e, ofI_0, ofI_400, ofJ_3, ofJ_1, ofJ_2, hp1, hp2, hp3, hp4, hp5, xwp_s, xcu_s, xcu_n, xPc_e, xsub_0, xsub_n, xsub_s, k27, kn, nI_00, fiO_0, gbM_0, hT, i400, i00]
  try simp
theorem rX7_fits : ∀ as σ, pX7_fits as σ → ∃ K as', as = .ref K :: as' ∧ xob WM K 7 := by
  rintro as σ ⟨s, n, rfl, hpre⟩
  exact ⟨_, _, rfl, by first | exact hpre | exact hpre.1 | exact obT hpre | exact obT hpre.1 | exact obS hpre | exact obS hpre.1 | exact obM | exact ob6 | exact ob2 | exact ob0⟩
