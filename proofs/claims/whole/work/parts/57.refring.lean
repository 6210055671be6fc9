/-! the longs don't matter to beats -/
def jw (h : Nat → Nat → Int64) (σ : xS) : xS := (σ.1, h)
theorem jw_1 {h : Nat → Nat → Int64} {σ : xS} : (jw h σ).1 = σ.1 := rfl
theorem jw_I {h : Nat → Nat → Int64} {σ : xS} {a b : Nat} {v : Int32} : xI (jw h σ) a b v = jw h (xI σ a b v) := rfl
theorem jw_ite {h : Nat → Nat → Int64} {c : Prop} [Decidable c] {A B : xS} : (if c then jw h A else jw h B) = jw h (if c then A else B) := by
  split <;> rfl
theorem doM_jw {h : Nat → Nat → Int64} {σ : xS} {w : Nat} : doM (jw h σ) w = jw h (doM σ w) := by
  unfold doM doA
  rw [show spM (jw h σ) w = spM σ w from rfl]
  simp only [show ∀ p d, ahM (jw h σ) p d = ahM σ p d from fun _ _ => rfl, show ∀ w t, trM (jw h σ) w t = trM σ w t from fun _ _ => rfl, jw_1, jw_I, jw_ite]
theorem dm1_jw {h : Nat → Nat → Int64} {σ : xS} : ∀ {i : Nat}, dm1 i (jw h σ) = jw h (dm1 i σ)
  | 0 => rfl
  | i + 1 => by rw [dm1_s, dm1_s, dm1_jw, doM_jw]
theorem hsM_jw {h : Nat → Nat → Int64} {σ : xS} : hsM (jw h σ) = jw h (hsM σ) := rfl
theorem p2M_jw {h : Nat → Nat → Int64} {σ : xS} {w : Nat} : p2M (jw h σ) w = jw h (p2M σ w) := by
  unfold p2M p2B toM
  rw [show nxM (jw h σ) (nI w) = nxM σ (nI w) from rfl]
  simp only [jw_I, show ∀ τ w f, tkMb (jw h τ) w f = tkMb τ w f from fun _ _ _ => rfl, show ∀ τ w, gvMb (jw h τ) w = gvMb τ w from fun _ _ => rfl, jw_1, jw_ite]
  rfl
theorem pm2_jw {h : Nat → Nat → Int64} {σ : xS} : ∀ {i : Nat}, pm2 i (jw h σ) = jw h (pm2 i σ)
  | 0 => rfl
  | i + 1 => by rw [pm2_s, pm2_s, pm2_jw, p2M_jw]
theorem p3M_jw {h : Nat → Nat → Int64} {n : Nat} {σ : xS} {w : Nat} : p3M n (jw h σ) w = jw h (p3M n σ w) := by
  unfold p3M p3B toM
  rw [show lqP (jw h σ) w = lqP σ w from rfl]
  simp only [jw_I, jw_1, jw_ite]
  rfl
theorem pm3_jw {h : Nat → Nat → Int64} {n : Nat} {σ : xS} : ∀ {i : Nat}, pm3 n i (jw h σ) = jw h (pm3 n i σ)
  | 0 => rfl
  | i + 1 => by rw [pm3_s, pm3_s, pm3_jw, p3M_jw]
theorem beM_jw {h : Nat → Nat → Int64} {σ : xS} : beM (jw h σ) = jw h (beM σ) := by
  unfold beM beT2 beT1
  rw [show tn ((jw h σ).1 0 1) = tn (σ.1 0 1) from rfl, dm1_jw, hsM_jw, pm2_jw, hsM_jw, pm3_jw]
theorem gbM_jw {h : Nat → Nat → Int64} {σ : xS} : ∀ {i : Nat}, gbM i (jw h σ) = jw h (gbM i σ)
  | 0 => rfl
  | i + 1 => by rw [gbM_s, gbM_s, gbM_jw, beM_jw]
/-! rings, as the reference looks for them -/
def rqW (τ : xS) (i : Nat) : xS := xJ (xJ τ 45 i (mkV τ 0)) 46 i (mkV (xJ τ 45 i (mkV τ 0)) 3)
def rqU (T : xS) : Nat → xS
  | 0 => T
  | i + 1 => beM (rqW (rqU T i) i)
theorem rqW_f {τ : xS} {i : Nat} : xJ (xJ τ 45 i (mkV τ 0)) 46 i (mkV (xJ τ 45 i (mkV τ 0)) 3) = rqW τ i := rfl
theorem rqU_s {T : xS} {i : Nat} : beM (rqW (rqU T i) i) = rqU T (i + 1) := rfl
theorem rqU_0 {T : xS} : rqU T 0 = T := rfl
theorem rqW_1 {τ : xS} {i a b : Nat} : (rqW τ i).1 a b = τ.1 a b := rfl
theorem rqU_1 {T : xS} : ∀ {i : Nat}, (rqU T i).1 = (gbM i T).1
  | 0 => rfl
  | i + 1 => by
    rw [← rqU_s, gbM_s]
    have e : rqW (rqU T i) i = jw (rqW (rqU T i) i).2 (gbM i T) := Prod.ext (show (rqU T i).1 = _ from rqU_1) rfl
    rw [e, beM_jw]
    rfl
theorem rqU_dy {T : xS} (h : BOK T) (i : Nat) : dyA (rqW (rqU T i) i) := by
  have h2 := h i
  have e : rqW (rqU T i) i = jw (rqW (rqU T i) i).2 (gbM i T) := Prod.ext (show (rqU T i).1 = _ from rqU_1) rfl
  rw [e]
  exact h2
theorem rqU_k {T : xS} {i c : Nat} : (rqU T i).1 0 c = T.1 0 c := by rw [rqU_1, gbM_k]
def rhP (Z : xS) (b c : Nat) : Bool := decide (Z.2 45 b = Z.2 45 c ∧ Z.2 46 b = Z.2 46 c)
def rhQ (Z : xS) (b k : Nat) : Bool := rhP Z b (b + 1 + k)
def rhI (Z : xS) (b n : Nat) : Nat := xfs (rhQ Z b) n
def rhE (Z : xS) (b : Nat) : Bool := xany (rhQ Z b) (400 - b)
def rhN (Z : xS) : Nat := xfs (rhE Z) 400
def rhV (Z : xS) (x : Int32) (b : Nat) : Int32 := if x = 0 then nI b else nI (b + 1 + rhI Z b (400 - b)) - nI b
def rhR (Z : xS) (x : Int32) : Int32 × xS := if rhN Z < 400 then (rhV Z x (rhN Z), Z) else noM Z (-6)
def rhZ (σ : xS) : xS := baM (rqW (rqU (bgM σ) 400) 400)
def ringM (σ : xS) (x : Int32) : Int32 × xS := if x < 0 ∨ 1 < x then noM σ (-5) else rhR (rhZ σ) x
def pX7_ring (as : List Value) (σ : xS) : Prop := ∃ (x : Int32), as = [.ref 0, .int x] ∧ ((0 ≤ σ.1 0 1) ∧ (σ.1 0 1 ≤ 6) ∧ (BOK (bgM σ)))
def fX7_ring (as : List Value) (σ : xS) : Option Value × xS := match as with
  | [.ref 0, .int x] => (some (.int (ringM σ x).1), (ringM σ x).2)
  | _ => (none, σ)
theorem pX7_ring_e {x : Int32} {σ : xS} : pX7_ring [.ref 0, .int x] σ = ((0 ≤ σ.1 0 1) ∧ (σ.1 0 1 ≤ 6) ∧ (BOK (bgM σ))) := propext ⟨fun h => by obtain ⟨x, e, h⟩ := h; cases e; exact h, fun h => ⟨x, rfl, h⟩⟩
theorem fX7_ring_e {x : Int32} {σ : xS} : fX7_ring [.ref 0, .int x] σ = (some (.int (ringM σ x).1), (ringM σ x).2) := rfl
def calX7_ring : List (Nat × xCall) := [(136, (false, 2, pX7_no, fX7_no)), (290, (false, 1, pX7_begins, fX7_begins)), (284, (false, 1, pX7_beats1, fX7_beats1)), (313, (false, 2, pX7_mark, fX7_mark)), (296, (false, 1, pX7_backAgain, fX7_backAgain))]
theorem c_X7_ring_136 : xlk calX7_ring 136 = some (false, 2, pX7_no, fX7_no) := rfl
theorem c_X7_ring_290 : xlk calX7_ring 290 = some (false, 1, pX7_begins, fX7_begins) := rfl
theorem c_X7_ring_284 : xlk calX7_ring 284 = some (false, 1, pX7_beats1, fX7_beats1) := rfl
theorem c_X7_ring_313 : xlk calX7_ring 313 = some (false, 2, pX7_mark, fX7_mark) := rfl
theorem c_X7_ring_296 : xlk calX7_ring 296 = some (false, 1, pX7_backAgain, fX7_backAgain) := rfl
set_option maxHeartbeats 1000000 in
set_option maxRecDepth 100000 in
theorem mX7_ring : xMet WM yX7_ring cX7_ring 4 (some .int) 5 pX7_ring fX7_ring := by
  refine xMet_of (fld := xlk fldX7) (cal := xlk calX7_ring) (ks := xlk []) (gs := xlk []) (ro := fun _ => none) 0 (by decide) WM_nd rfl fldX7_ok xKs_nil xGs_nil (Or.inr rfl) (xcal_cons (xCk_V mX7_no 7 (by decide) (by decide) (by decide) rfl (fun as σ h _ => rX7_no as σ h) w_X7_136 ⟨by decide, by decide, by decide +kernel⟩) (xcal_cons (xCk_V mX7_begins 7 (by decide) (by decide) (by decide) rfl (fun as σ h _ => rX7_begins as σ h) w_X7_290 ⟨by decide, by decide, by decide +kernel⟩) (xcal_cons (xCk_V mX7_beats1 7 (by decide) (by decide) (by decide) rfl (fun as σ h _ => rX7_beats1 as σ h) w_X7_284 ⟨by decide, by decide, by decide +kernel⟩) (xcal_cons (xCk_V mX7_mark 7 (by decide) (by decide) (by decide) rfl (fun as σ h _ => rX7_mark as σ h) w_X7_313 ⟨by decide, by decide, by decide +kernel⟩) (xcal_cons (xCk_V mX7_backAgain 7 (by decide) (by decide) (by decide) rfl (fun as σ h _ => rX7_backAgain as σ h) w_X7_296 ⟨by decide, by decide, by decide +kernel⟩) xcal_nil))))) ?_ ?_
  · rintro av σ ⟨x, rfl, hpre⟩
    exact Nat.le_of_ble_eq_true rfl
  rintro av σ ⟨x, rfl, ⟨hp1, hp2, hp3⟩⟩ Rt hR
  have hR2 := hR2_g (Rt := Rt) (F := ringM σ x) (fun r s' => by rw [hR, fX7_ring_e])
  clear hR
  have h38 : ¬ (x < 0 ∨ 1 < x) → xGo WM 4 (xlk fldX7) (xlk calX7_ring) (xlk []) (xlk []) (fun _ => none) 0 cX7_ring Rt 38 [some (.ref 0), some (.int x), some (.int (nI 0)), none] [] (rqU (bgM σ) 0) := fun hg => by
    have g0 : ringM σ x = rhR (baM (rqW (rqU (bgM σ) 400) 400)) x := by rw [ringM, if_neg hg]; rfl
    rw [g0] at hR2
    have hdy := rqU_dy hp3
    clear g0
    generalize hT : bgM σ = T at *
    have hT0 : ∀ b, T.1 0 b = σ.1 0 b := fun b => by rw [← hT, bgM_k]
    clear hT
    have h66 : xGo WM 4 (xlk fldX7) (xlk calX7_ring) (xlk []) (xlk []) (fun _ => none) 0 cX7_ring Rt 66 [some (.ref 0), some (.int x), none, none] [] (rqW (rqU T 400) 400) := by
      generalize hZ : baM (rqW (rqU T 400) 400) = Z at *
      have h72 : ∀ i, i ≤ 400 → (∀ j, j < i → rhE Z j = false) → xGo WM 4 (xlk fldX7) (xlk calX7_ring) (xlk []) (xlk []) (fun _ => none) 0 cX7_ring Rt 72 [some (.ref 0), some (.int x), some (.int (nI i)), none] [] (Z) := by
        refine xcount (400) (fun i => (∀ j, j < i → rhE Z j = false) → xGo WM 4 (xlk fldX7) (xlk calX7_ring) (xlk []) (xlk []) (fun _ => none) 0 cX7_ring Rt 72 [some (.ref 0), some (.int x), some (.int (nI i)), none] [] (Z)) (fun i hi ih hH => ?_)
        have hci : (400 : Int32) ≤ nI i ↔ 400 ≤ i := nI_leI (a := 400) (by omega) (by omega)
        have e0i : 0 ≤ nI i := nI_pos' (by omega)
        have e1i : nI i + 1 = nI (i + 1) := nI_1 i
        have e2i : tn (nI i) = i := tn_nI (by omega)
        have h83 : i < 400 → xGo WM 4 (xlk fldX7) (xlk calX7_ring) (xlk []) (xlk []) (fun _ => none) 0 cX7_ring Rt 83 [some (.ref 0), some (.int x), some (.int (nI i)), some (.int (nI (i + 1 + 0)))] [] Z := fun hlt => by
          have h83 : ∀ k, k ≤ 400 - i → (∀ j, j < k → rhQ Z i j = false) → xGo WM 4 (xlk fldX7) (xlk calX7_ring) (xlk []) (xlk []) (fun _ => none) 0 cX7_ring Rt 83 [some (.ref 0), some (.int x), some (.int (nI i)), some (.int (nI (i + 1 + k)))] [] (Z) := by
            refine xcount (400 - i) (fun k => (∀ j, j < k → rhQ Z i j = false) → xGo WM 4 (xlk fldX7) (xlk calX7_ring) (xlk []) (xlk []) (fun _ => none) 0 cX7_ring Rt 83 [some (.ref 0), some (.int x), some (.int (nI i)), some (.int (nI (i + 1 + k)))] [] (Z)) (fun k hk ihk hK => ?_)
            have hck : (400 : Int32) < nI (i + 1 + k) ↔ ¬ k < 400 - i := Iff.trans (nI_ltI (a := 400) (by omega) (by omega)) (by omega)
            have f0 : 0 ≤ nI (i + 1 + k) := nI_pos' (by omega)
            have f1 : nI (i + 1 + k) + 1 = nI (i + 1 + (k + 1)) := nI_1 (i + 1 + k)
            have f2 : tn (nI (i + 1 + k)) = i + 1 + k := tn_nI (by omega)
            refine xtoCs [(83, xPc (k < 400 - i ∧ (∀ j, j < (k + 1) → rhQ Z i j = false)) [some (.ref 0), some (.int x), some (.int (nI i)), some (.int (nI (i + 1 + (k + 1))))] (Z)), (72, xPc (i < 400 ∧ rhE Z i = false) [some (.ref 0), some (.int x), some (.int (nI (i + 1))), none] (Z))] (xcs_cons (fun q => ihk q.1 q.2) (xcs_cons (fun q => ih q.1 (xall_s hH q.2)) xcs_nil)) 40 (fun cf hcf => ?_)
            have k83 : cf 83 = some (xPc (k < 400 - i ∧ (∀ j, j < (k + 1) → rhQ Z i j = false)) [some (.ref 0), some (.int x), some (.int (nI i)), some (.int (nI (i + 1 + (k + 1))))] (Z)) := (hcf 83).trans rfl
            have k72 : cf 72 = some (xPc (i < 400 ∧ rhE Z i = false) [some (.ref 0), some (.int x), some (.int (nI (i + 1))), none] (Z)) := (hcf 72).trans rfl
            have kn : ∀ pc, ¬ pc = 83 → ¬ pc = 72 → cf pc = none := fun pc h0 h1 => by rw [hcf, xlk_c, if_neg h0, xlk_c, if_neg h1, xlk_n]
            clear hcf
            simp (config := {maxSteps := 4000000, implicitDefEqProofs := false}) only [xwp_2, xwp_0, xwp_1, xws_s, xdd_o, xld_0, xld_s, xs1_0, xs1_1, xs1_s, xs2_0, xs2_1, xs2_s, xlg_n, xlg_i, xlg_r, xlg_z, xlg_l, xf4_0, xf4_1, xf4_2, xf4_3, xgo_e, xcmp_eq, xcmp_ne, xcmp_lt, xcmp_ge, xcmp_gt, xcmp_le, xfg_0, xfg_1, xfg_2, xfg_3, xfg_4, xpop_0, xpop_s, xsw_n, xsw_c, xtb_n, xtb_c, xenp_n, xenp_i, xenp_r, xenp_z, xenp_l, xrep_0, xrep_s, Nat.reduceSub, true_and, and_true, cat_i, cat_r, Nat.reduceAdd, Nat.reduceLT, Nat.reduceLeDiff, Nat.reduceEqDiff, xnc, Int.reduceAdd, Int.reduceSub, Int.reduceNeg, Int.reduceLE, Int.reduceLT, Int.reduceToNat, ↓reduceIte, List.length_cons, List.length_nil, xlc0, xlc1, ite_10, i10, i01, i0_2, i0_3, i0_4, i0_6, i0_7, i0_8, i0_49, i0_10, or_true, true_or, or_false, false_or, not_false_eq_true, not_true_eq_false, xnt, xI_g, eq_self, xI_2, xJ_1, false_and, and_false, obM_t, rMi, vp_tn, tn_def, lgc, nI8, nI6, nI160, nI20, nI401, nI49, aM_6, aM_7, aM_8, aM_9, aM_10, aM_11, aM_12, aM_13, aM_14, aM_15, aM_16, aM_17, aM_18, aM_19, aM_20, aM_21, aM_22, aM_23, aM_24, aM_25, aM_26, aM_27, aM_28, aM_29, aM_30, aM_31, aM_38, aM_39, aM_40, aM_41, aM_42, aM_43, aM_44, aM_45, aM_46, aM_47, lM_6, lM_7, lM_8, lM_9, lM_10, lM_11, lM_12, lM_13, lM_14, lM_15, lM_16, lM_17, lM_18, lM_19, lM_20, lM_21, lM_22, lM_23, lM_24, lM_25, lM_26, lM_27, lM_28, lM_29, lM_30, lM_31, lM_38, lM_39, lM_40, lM_41, lM_42, lM_43, lM_44, lM_45, lM_46, lM_47, dX7_ring_0, st_iload_n, dX7_ring_1, st_ifCond, dX7_ring_4, dX7_ring_5, st_iconst, dX7_ring_6, st_if_icmp, dX7_ring_9, st_aload_n, dX7_ring_10, st_bipush, dX7_ring_12, st_invokevirtual, dX7_ring_15, st_ireturn, dX7_ring_16, dX7_ring_17, dX7_ring_20, dX7_ring_21, st_istore_n, dX7_ring_22, dX7_ring_23, st_sipush, dX7_ring_26, dX7_ring_29, dX7_ring_30, dX7_ring_33, dX7_ring_34, dX7_ring_37, st_pop, dX7_ring_38, dX7_ring_39, st_getfield, fl_X7_117, dX7_ring_42, dX7_ring_43, dX7_ring_44, dX7_ring_45, dX7_ring_48, st_lastore, dX7_ring_49, dX7_ring_50, fl_X7_120, dX7_ring_53, dX7_ring_54, dX7_ring_55, dX7_ring_56, dX7_ring_59, dX7_ring_60, st_iinc, dX7_ring_63, st_goto, dX7_ring_66, dX7_ring_67, dX7_ring_70, dX7_ring_71, dX7_ring_72, dX7_ring_73, dX7_ring_76, dX7_ring_79, dX7_ring_80, dX7_ring_81, st_iadd, dX7_ring_82, dX7_ring_83, dX7_ring_84, dX7_ring_87, dX7_ring_90, dX7_ring_91, dX7_ring_94, dX7_ring_95, st_laload, dX7_ring_96, dX7_ring_97, dX7_ring_100, dX7_ring_101, dX7_ring_102, st_lcmp, dX7_ring_103, dX7_ring_106, dX7_ring_107, dX7_ring_110, dX7_ring_111, dX7_ring_112, dX7_ring_113, dX7_ring_116, dX7_ring_117, dX7_ring_118, dX7_ring_119, dX7_ring_122, dX7_ring_123, dX7_ring_126, dX7_ring_127, dX7_ring_130, dX7_ring_131, dX7_ring_132, st_isub, dX7_ring_133, dX7_ring_134, dX7_ring_137, dX7_ring_140, dX7_ring_143, dX7_ring_146, dX7_ring_147, dX7_ring_149, dX7_ring_152, c_X7_ring_136, pX7_no_e, fX7_no_e, Option.toList_some, Option.toList_none, List.cons_append, List.nil_append, c_X7_ring_290, pX7_begins_e, fX7_begins_e, c_X7_ring_284, pX7_beats1_e, fX7_beats1_e, c_X7_ring_313, pX7_mark_e, fX7_mark_e, c_X7_ring_296, pX7_backAgain_e, fX7_backAgain_e, ofJ_1, ofI_m5, ofI_0, ofI_400, ofJ_3, ofI_m6, hp1, hp2, hp3, xwp_s, xcu_s, xcu_n, xPc_e, xsub_0, xsub_n, xsub_s, k83, k72, kn, hck, e0i, e1i, e2i, f0, f1, f2, lgc]
            have e5 : rhQ Z i k = decide (Z.2 45 i = Z.2 45 (i + 1 + k) ∧ Z.2 46 i = Z.2 46 (i + 1 + k)) := rfl
            have cont : rhQ Z i k = false → (∀ j, j < k + 1 → rhQ Z i j = false) := fun h2 => xall_s hK h2
            have fin : ¬ k < 400 - i → rhE Z i = false := fun h => xany_f (fun j hj => hK j (by omega))
            have stop : k < 400 - i → rhQ Z i k = true → rhR Z x = (if x = 0 then nI i else nI (i + 1 + k) - nI i, Z) := fun h1 h2 => by
              have a1 : rhE Z i = true := xany_t h1 h2
              have a2 : rhN Z = i := xfs_at hlt a1 hH
              have a3 : rhI Z i (400 - i) = k := xfs_at h1 h2 hK
              rw [rhR, a2, if_pos hlt, rhV, a3]
            have hin : k < 400 - i → i < 401 ∧ i + 1 + k < 401 := fun h => by omega
            simp only [hR2]
            clear hR2 hck ih ihk
            generalize rhR Z x = RR at *
            generalize nI (i + 1 + k) = nk at *
            generalize nI i = ni at *
            grind (splits := 60)
          exact h83 0 (Nat.zero_le _) (fun j hj => by omega)
        refine xtoCs [(72, xPc (i < 400 ∧ (∀ j, j < (i + 1) → rhE Z j = false)) [some (.ref 0), some (.int x), some (.int (nI (i + 1))), none] (Z)), (83, xPc (i < 400) [some (.ref 0), some (.int x), some (.int (nI i)), some (.int (nI (i + 1 + 0)))] (Z))] (xcs_cons (fun q => ih q.1 q.2) (xcs_cons (fun q => h83 q) xcs_nil)) 16 (fun cf hcf => ?_)
        have k72 : cf 72 = some (xPc (i < 400 ∧ (∀ j, j < (i + 1) → rhE Z j = false)) [some (.ref 0), some (.int x), some (.int (nI (i + 1))), none] (Z)) := (hcf 72).trans rfl
        have k83 : cf 83 = some (xPc (i < 400) [some (.ref 0), some (.int x), some (.int (nI i)), some (.int (nI (i + 1 + 0)))] (Z)) := (hcf 83).trans rfl
        have kn : ∀ pc, ¬ pc = 72 → ¬ pc = 83 → cf pc = none := fun pc h0 h1 => by rw [hcf, xlk_c, if_neg h0, xlk_c, if_neg h1, xlk_n]
        clear hcf
        simp (config := {maxSteps := 4000000, implicitDefEqProofs := false}) only [xwp_2, xwp_0, xwp_1, xws_s, xdd_o, xld_0, xld_s, xs1_0, xs1_1, xs1_s, xs2_0, xs2_1, xs2_s, xlg_n, xlg_i, xlg_r, xlg_z, xlg_l, xf4_0, xf4_1, xf4_2, xf4_3, xgo_e, xcmp_eq, xcmp_ne, xcmp_lt, xcmp_ge, xcmp_gt, xcmp_le, xfg_0, xfg_1, xfg_2, xfg_3, xfg_4, xpop_0, xpop_s, xsw_n, xsw_c, xtb_n, xtb_c, xenp_n, xenp_i, xenp_r, xenp_z, xenp_l, xrep_0, xrep_s, Nat.reduceSub, true_and, and_true, cat_i, cat_r, Nat.reduceAdd, Nat.reduceLT, Nat.reduceLeDiff, Nat.reduceEqDiff, xnc, Int.reduceAdd, Int.reduceSub, Int.reduceNeg, Int.reduceLE, Int.reduceLT, Int.reduceToNat, ↓reduceIte, List.length_cons, List.length_nil, xlc0, xlc1, ite_10, i10, i01, i0_2, i0_3, i0_4, i0_6, i0_7, i0_8, i0_49, i0_10, or_true, true_or, or_false, false_or, not_false_eq_true, not_true_eq_false, xnt, xI_g, eq_self, xI_2, xJ_1, false_and, and_false, obM_t, rMi, vp_tn, tn_def, lgc, nI8, nI6, nI160, nI20, nI401, nI49, aM_6, aM_7, aM_8, aM_9, aM_10, aM_11, aM_12, aM_13, aM_14, aM_15, aM_16, aM_17, aM_18, aM_19, aM_20, aM_21, aM_22, aM_23, aM_24, aM_25, aM_26, aM_27, aM_28, aM_29, aM_30, aM_31, aM_38, aM_39, aM_40, aM_41, aM_42, aM_43, aM_44, aM_45, aM_46, aM_47, lM_6, lM_7, lM_8, lM_9, lM_10, lM_11, lM_12, lM_13, lM_14, lM_15, lM_16, lM_17, lM_18, lM_19, lM_20, lM_21, lM_22, lM_23, lM_24, lM_25, lM_26, lM_27, lM_28, lM_29, lM_30, lM_31, lM_38, lM_39, lM_40, lM_41, lM_42, lM_43, lM_44, lM_45, lM_46, lM_47, dX7_ring_0, st_iload_n, dX7_ring_1, st_ifCond, dX7_ring_4, dX7_ring_5, st_iconst, dX7_ring_6, st_if_icmp, dX7_ring_9, st_aload_n, dX7_ring_10, st_bipush, dX7_ring_12, st_invokevirtual, dX7_ring_15, st_ireturn, dX7_ring_16, dX7_ring_17, dX7_ring_20, dX7_ring_21, st_istore_n, dX7_ring_22, dX7_ring_23, st_sipush, dX7_ring_26, dX7_ring_29, dX7_ring_30, dX7_ring_33, dX7_ring_34, dX7_ring_37, st_pop, dX7_ring_38, dX7_ring_39, st_getfield, fl_X7_117, dX7_ring_42, dX7_ring_43, dX7_ring_44, dX7_ring_45, dX7_ring_48, st_lastore, dX7_ring_49, dX7_ring_50, fl_X7_120, dX7_ring_53, dX7_ring_54, dX7_ring_55, dX7_ring_56, dX7_ring_59, dX7_ring_60, st_iinc, dX7_ring_63, st_goto, dX7_ring_66, dX7_ring_67, dX7_ring_70, dX7_ring_71, dX7_ring_72, dX7_ring_73, dX7_ring_76, dX7_ring_79, dX7_ring_80, dX7_ring_81, st_iadd, dX7_ring_82, dX7_ring_83, dX7_ring_84, dX7_ring_87, dX7_ring_90, dX7_ring_91, dX7_ring_94, dX7_ring_95, st_laload, dX7_ring_96, dX7_ring_97, dX7_ring_100, dX7_ring_101, dX7_ring_102, st_lcmp, dX7_ring_103, dX7_ring_106, dX7_ring_107, dX7_ring_110, dX7_ring_111, dX7_ring_112, dX7_ring_113, dX7_ring_116, dX7_ring_117, dX7_ring_118, dX7_ring_119, dX7_ring_122, dX7_ring_123, dX7_ring_126, dX7_ring_127, dX7_ring_130, dX7_ring_131, dX7_ring_132, st_isub, dX7_ring_133, dX7_ring_134, dX7_ring_137, dX7_ring_140, dX7_ring_143, dX7_ring_146, dX7_ring_147, dX7_ring_149, dX7_ring_152, c_X7_ring_136, pX7_no_e, fX7_no_e, Option.toList_some, Option.toList_none, List.cons_append, List.nil_append, c_X7_ring_290, pX7_begins_e, fX7_begins_e, c_X7_ring_284, pX7_beats1_e, fX7_beats1_e, c_X7_ring_313, pX7_mark_e, fX7_mark_e, c_X7_ring_296, pX7_backAgain_e, fX7_backAgain_e, ofJ_1, ofI_m5, ofI_0, ofI_400, ofJ_3, ofI_m6, hp1, hp2, hp3, xwp_s, xcu_s, xcu_n, xPc_e, xsub_0, xsub_n, xsub_s, k72, k83, kn, hci, e1i, nbP_1, nbP_2, nbP_3, nbP_4, nbP_5, nbP_6, nbP_7]
        have fin : 400 ≤ i → rhR Z x = noM Z (-6) := fun h => by
          have a2 : rhN Z = 400 := xfs_no (fun j hj => hH j (by omega))
          rw [rhR, a2, if_neg (by omega)]
        have h8 : ¬ 400 ≤ i → i < 400 := fun h => by omega
        simp only [hR2]
        clear hR2 hci ih h83
        simp only [noM] at fin
        generalize rhR Z x = RR at *
        grind (splits := 40)
      refine xtoC [(72, xPc (True) [some (.ref 0), some (.int x), some (.int (nI 0)), none] (Z))] (xcs_cons (fun _ => h72 0 (Nat.zero_le _) (fun j hj => by omega)) xcs_nil) 8 (fun cf hcf => ?_)
      have k72 : cf 72 = some (xPc (True) [some (.ref 0), some (.int x), some (.int (nI 0)), none] (Z)) := (hcf 72).trans rfl
      have kn : ∀ pc, ¬ pc = 72 → cf pc = none := fun pc h0 => by rw [hcf, xlk_c, if_neg h0, xlk_n]
      clear hcf
      simp (config := {maxSteps := 4000000, implicitDefEqProofs := false}) only [xwp_2, xwp_0, xwp_1, xws_s, xdd_o, xld_0, xld_s, xs1_0, xs1_1, xs1_s, xs2_0, xs2_1, xs2_s, xlg_n, xlg_i, xlg_r, xlg_z, xlg_l, xf4_0, xf4_1, xf4_2, xf4_3, xgo_e, xcmp_eq, xcmp_ne, xcmp_lt, xcmp_ge, xcmp_gt, xcmp_le, xfg_0, xfg_1, xfg_2, xfg_3, xfg_4, xpop_0, xpop_s, xsw_n, xsw_c, xtb_n, xtb_c, xenp_n, xenp_i, xenp_r, xenp_z, xenp_l, xrep_0, xrep_s, Nat.reduceSub, true_and, and_true, cat_i, cat_r, Nat.reduceAdd, Nat.reduceLT, Nat.reduceLeDiff, Nat.reduceEqDiff, xnc, Int.reduceAdd, Int.reduceSub, Int.reduceNeg, Int.reduceLE, Int.reduceLT, Int.reduceToNat, ↓reduceIte, List.length_cons, List.length_nil, xlc0, xlc1, ite_10, i10, i01, i0_2, i0_3, i0_4, i0_6, i0_7, i0_8, i0_49, i0_10, or_true, true_or, or_false, false_or, not_false_eq_true, not_true_eq_false, xnt, xI_g, eq_self, xI_2, xJ_1, false_and, and_false, obM_t, rMi, vp_tn, tn_def, lgc, nI8, nI6, nI160, nI20, nI401, nI49, aM_6, aM_7, aM_8, aM_9, aM_10, aM_11, aM_12, aM_13, aM_14, aM_15, aM_16, aM_17, aM_18, aM_19, aM_20, aM_21, aM_22, aM_23, aM_24, aM_25, aM_26, aM_27, aM_28, aM_29, aM_30, aM_31, aM_38, aM_39, aM_40, aM_41, aM_42, aM_43, aM_44, aM_45, aM_46, aM_47, lM_6, lM_7, lM_8, lM_9, lM_10, lM_11, lM_12, lM_13, lM_14, lM_15, lM_16, lM_17, lM_18, lM_19, lM_20, lM_21, lM_22, lM_23, lM_24, lM_25, lM_26, lM_27, lM_28, lM_29, lM_30, lM_31, lM_38, lM_39, lM_40, lM_41, lM_42, lM_43, lM_44, lM_45, lM_46, lM_47, dX7_ring_0, st_iload_n, dX7_ring_1, st_ifCond, dX7_ring_4, dX7_ring_5, st_iconst, dX7_ring_6, st_if_icmp, dX7_ring_9, st_aload_n, dX7_ring_10, st_bipush, dX7_ring_12, st_invokevirtual, dX7_ring_15, st_ireturn, dX7_ring_16, dX7_ring_17, dX7_ring_20, dX7_ring_21, st_istore_n, dX7_ring_22, dX7_ring_23, st_sipush, dX7_ring_26, dX7_ring_29, dX7_ring_30, dX7_ring_33, dX7_ring_34, dX7_ring_37, st_pop, dX7_ring_38, dX7_ring_39, st_getfield, fl_X7_117, dX7_ring_42, dX7_ring_43, dX7_ring_44, dX7_ring_45, dX7_ring_48, st_lastore, dX7_ring_49, dX7_ring_50, fl_X7_120, dX7_ring_53, dX7_ring_54, dX7_ring_55, dX7_ring_56, dX7_ring_59, dX7_ring_60, st_iinc, dX7_ring_63, st_goto, dX7_ring_66, dX7_ring_67, dX7_ring_70, dX7_ring_71, dX7_ring_72, dX7_ring_73, dX7_ring_76, dX7_ring_79, dX7_ring_80, dX7_ring_81, st_iadd, dX7_ring_82, dX7_ring_83, dX7_ring_84, dX7_ring_87, dX7_ring_90, dX7_ring_91, dX7_ring_94, dX7_ring_95, st_laload, dX7_ring_96, dX7_ring_97, dX7_ring_100, dX7_ring_101, dX7_ring_102, st_lcmp, dX7_ring_103, dX7_ring_106, dX7_ring_107, dX7_ring_110, dX7_ring_111, dX7_ring_112, dX7_ring_113, dX7_ring_116, dX7_ring_117, dX7_ring_118, dX7_ring_119, dX7_ring_122, dX7_ring_123, dX7_ring_126, dX7_ring_127, dX7_ring_130, dX7_ring_131, dX7_ring_132, st_isub, dX7_ring_133, dX7_ring_134, dX7_ring_137, dX7_ring_140, dX7_ring_143, dX7_ring_146, dX7_ring_147, dX7_ring_149, dX7_ring_152, c_X7_ring_136, pX7_no_e, fX7_no_e, Option.toList_some, Option.toList_none, List.cons_append, List.nil_append, c_X7_ring_290, pX7_begins_e, fX7_begins_e, c_X7_ring_284, pX7_beats1_e, fX7_beats1_e, c_X7_ring_313, pX7_mark_e, fX7_mark_e, c_X7_ring_296, pX7_backAgain_e, fX7_backAgain_e, ofJ_1, ofI_m5, ofI_0, ofI_400, ofJ_3, ofI_m6, hp1, hp2, hp3, xwp_s, xcu_s, xcu_n, xPc_e, xsub_0, xsub_n, xsub_s, k72, kn, nI_00, hZ]
      try simp
    have c03 : (0 : Int32) = 0 ∨ (0 : Int32) = 3 := Or.inl rfl
    have c33 : (3 : Int32) = 0 ∨ (3 : Int32) = 3 := Or.inr rfl
    have h1 : ∀ i, i ≤ 400 → xGo WM 4 (xlk fldX7) (xlk calX7_ring) (xlk []) (xlk []) (fun _ => none) 0 cX7_ring Rt 38 [some (.ref 0), some (.int x), some (.int (nI i)), none] [] (rqU T i) := by
      refine xcount (400) (fun i => xGo WM 4 (xlk fldX7) (xlk calX7_ring) (xlk []) (xlk []) (fun _ => none) 0 cX7_ring Rt 38 [some (.ref 0), some (.int x), some (.int (nI i)), none] [] (rqU T i)) (fun i hi ih => ?_)
      have hci : (400 : Int32) < nI (i + 1) ↔ 400 ≤ i := Iff.trans (nI_ltI (a := 400) (by omega) (by omega)) (by omega)
      have hc2 : ¬ nI (i + 1) ≤ 0 := fun q => by have := (nI_leI (b := 0) (by omega) (by omega)).mp q; omega
      have hdyi := hdy i
      have e0i : 0 ≤ nI i := nI_pos' (by omega)
      have e1i : nI i + 1 = nI (i + 1) := nI_1 i
      have e2i : tn (nI i) = i := tn_nI (by omega)
      refine xtoCs [(38, xPc (i < 400) [some (.ref 0), some (.int x), some (.int (nI (i + 1))), none] (rqU T (i + 1))), (66, xPc (i = 400) [some (.ref 0), some (.int x), none, none] (rqW (rqU T 400) 400))] (xcs_cons (ih) (xcs_cons (fun _ => h66) xcs_nil)) 40 (fun cf hcf => ?_)
      have k38 : cf 38 = some (xPc (i < 400) [some (.ref 0), some (.int x), some (.int (nI (i + 1))), none] (rqU T (i + 1))) := (hcf 38).trans rfl
      have k66 : cf 66 = some (xPc (i = 400) [some (.ref 0), some (.int x), none, none] (rqW (rqU T 400) 400)) := (hcf 66).trans rfl
      have kn : ∀ pc, ¬ pc = 38 → ¬ pc = 66 → cf pc = none := fun pc h0 h1 => by rw [hcf, xlk_c, if_neg h0, xlk_c, if_neg h1, xlk_n]
      clear hcf
      simp (config := {maxSteps := 4000000, implicitDefEqProofs := false}) only [xwp_2, xwp_0, xwp_1, xws_s, xdd_o, xld_0, xld_s, xs1_0, xs1_1, xs1_s, xs2_0, xs2_1, xs2_s, xlg_n, xlg_i, xlg_r, xlg_z, xlg_l, xf4_0, xf4_1, xf4_2, xf4_3, xgo_e, xcmp_eq, xcmp_ne, xcmp_lt, xcmp_ge, xcmp_gt, xcmp_le, xfg_0, xfg_1, xfg_2, xfg_3, xfg_4, xpop_0, xpop_s, xsw_n, xsw_c, xtb_n, xtb_c, xenp_n, xenp_i, xenp_r, xenp_z, xenp_l, xrep_0, xrep_s, Nat.reduceSub, true_and, and_true, cat_i, cat_r, Nat.reduceAdd, Nat.reduceLT, Nat.reduceLeDiff, Nat.reduceEqDiff, xnc, Int.reduceAdd, Int.reduceSub, Int.reduceNeg, Int.reduceLE, Int.reduceLT, Int.reduceToNat, ↓reduceIte, List.length_cons, List.length_nil, xlc0, xlc1, ite_10, i10, i01, i0_2, i0_3, i0_4, i0_6, i0_7, i0_8, i0_49, i0_10, or_true, true_or, or_false, false_or, not_false_eq_true, not_true_eq_false, xnt, xI_g, eq_self, xI_2, xJ_1, false_and, and_false, obM_t, rMi, vp_tn, tn_def, lgc, nI8, nI6, nI160, nI20, nI401, nI49, aM_6, aM_7, aM_8, aM_9, aM_10, aM_11, aM_12, aM_13, aM_14, aM_15, aM_16, aM_17, aM_18, aM_19, aM_20, aM_21, aM_22, aM_23, aM_24, aM_25, aM_26, aM_27, aM_28, aM_29, aM_30, aM_31, aM_38, aM_39, aM_40, aM_41, aM_42, aM_43, aM_44, aM_45, aM_46, aM_47, lM_6, lM_7, lM_8, lM_9, lM_10, lM_11, lM_12, lM_13, lM_14, lM_15, lM_16, lM_17, lM_18, lM_19, lM_20, lM_21, lM_22, lM_23, lM_24, lM_25, lM_26, lM_27, lM_28, lM_29, lM_30, lM_31, lM_38, lM_39, lM_40, lM_41, lM_42, lM_43, lM_44, lM_45, lM_46, lM_47, dX7_ring_0, st_iload_n, dX7_ring_1, st_ifCond, dX7_ring_4, dX7_ring_5, st_iconst, dX7_ring_6, st_if_icmp, dX7_ring_9, st_aload_n, dX7_ring_10, st_bipush, dX7_ring_12, st_invokevirtual, dX7_ring_15, st_ireturn, dX7_ring_16, dX7_ring_17, dX7_ring_20, dX7_ring_21, st_istore_n, dX7_ring_22, dX7_ring_23, st_sipush, dX7_ring_26, dX7_ring_29, dX7_ring_30, dX7_ring_33, dX7_ring_34, dX7_ring_37, st_pop, dX7_ring_38, dX7_ring_39, st_getfield, fl_X7_117, dX7_ring_42, dX7_ring_43, dX7_ring_44, dX7_ring_45, dX7_ring_48, st_lastore, dX7_ring_49, dX7_ring_50, fl_X7_120, dX7_ring_53, dX7_ring_54, dX7_ring_55, dX7_ring_56, dX7_ring_59, dX7_ring_60, st_iinc, dX7_ring_63, st_goto, dX7_ring_66, dX7_ring_67, dX7_ring_70, dX7_ring_71, dX7_ring_72, dX7_ring_73, dX7_ring_76, dX7_ring_79, dX7_ring_80, dX7_ring_81, st_iadd, dX7_ring_82, dX7_ring_83, dX7_ring_84, dX7_ring_87, dX7_ring_90, dX7_ring_91, dX7_ring_94, dX7_ring_95, st_laload, dX7_ring_96, dX7_ring_97, dX7_ring_100, dX7_ring_101, dX7_ring_102, st_lcmp, dX7_ring_103, dX7_ring_106, dX7_ring_107, dX7_ring_110, dX7_ring_111, dX7_ring_112, dX7_ring_113, dX7_ring_116, dX7_ring_117, dX7_ring_118, dX7_ring_119, dX7_ring_122, dX7_ring_123, dX7_ring_126, dX7_ring_127, dX7_ring_130, dX7_ring_131, dX7_ring_132, st_isub, dX7_ring_133, dX7_ring_134, dX7_ring_137, dX7_ring_140, dX7_ring_143, dX7_ring_146, dX7_ring_147, dX7_ring_149, dX7_ring_152, c_X7_ring_136, pX7_no_e, fX7_no_e, Option.toList_some, Option.toList_none, List.cons_append, List.nil_append, c_X7_ring_290, pX7_begins_e, fX7_begins_e, c_X7_ring_284, pX7_beats1_e, fX7_beats1_e, c_X7_ring_313, pX7_mark_e, fX7_mark_e, c_X7_ring_296, pX7_backAgain_e, fX7_backAgain_e, ofJ_1, ofI_m5, ofI_0, ofI_400, ofJ_3, ofI_m6, hp1, hp2, hp3, xwp_s, xcu_s, xcu_n, xPc_e, xsub_0, xsub_n, xsub_s, k38, k66, kn, hci, hc2, e0i, e1i, e2i, c03, c33, rqW_f, rqU_s, rqW_1, rqU_k, hT0, hp1, hp2, hdyi]
      have fin : 400 ≤ i → rqW (rqU T i) i = rqW (rqU T 400) 400 := fun h => by rw [show i = 400 by omega]
      have h8 : i < 401 := by omega
      have h9 : 400 ≤ i → i = 400 := fun h => by omega
      clear hR2 hci hc2 ih hdy hdyi h66
      simp only [h8, true_and, and_true]
      grind (splits := 40)
    exact h1 0 (Nat.zero_le _)
  refine xtoC [(38, xPc (¬ (x < 0 ∨ 1 < x)) [some (.ref 0), some (.int x), some (.int (nI 0)), none] (rqU (bgM σ) 0))] (xcs_cons (h38) xcs_nil) 24 (fun cf hcf => ?_)
  have k38 : cf 38 = some (xPc (¬ (x < 0 ∨ 1 < x)) [some (.ref 0), some (.int x), some (.int (nI 0)), none] (rqU (bgM σ) 0)) := (hcf 38).trans rfl
  have kn : ∀ pc, ¬ pc = 38 → cf pc = none := fun pc h0 => by rw [hcf, xlk_c, if_neg h0, xlk_n]
  clear hcf
  simp (config := {maxSteps := 4000000, implicitDefEqProofs := false}) only [xwp_2, xwp_0, xwp_1, xws_s, xdd_o, xld_0, xld_s, xs1_0, xs1_1, xs1_s, xs2_0, xs2_1, xs2_s, xlg_n, xlg_i, xlg_r, xlg_z, xlg_l, xf4_0, xf4_1, xf4_2, xf4_3, xgo_e, xcmp_eq, xcmp_ne, xcmp_lt, xcmp_ge, xcmp_gt, xcmp_le, xfg_0, xfg_1, xfg_2, xfg_3, xfg_4, xpop_0, xpop_s, xsw_n, xsw_c, xtb_n, xtb_c, xenp_n, xenp_i, xenp_r, xenp_z, xenp_l, xrep_0, xrep_s, Nat.reduceSub, true_and, and_true, cat_i, cat_r, Nat.reduceAdd, Nat.reduceLT, Nat.reduceLeDiff, Nat.reduceEqDiff, xnc, Int.reduceAdd, Int.reduceSub, Int.reduceNeg, Int.reduceLE, Int.reduceLT, Int.reduceToNat, ↓reduceIte, List.length_cons, List.length_nil, xlc0, xlc1, ite_10, i10, i01, i0_2, i0_3, i0_4, i0_6, i0_7, i0_8, i0_49, i0_10, or_true, true_or, or_false, false_or, not_false_eq_true, not_true_eq_false, xnt, xI_g, eq_self, xI_2, xJ_1, false_and, and_false, obM_t, rMi, vp_tn, tn_def, lgc, nI8, nI6, nI160, nI20, nI401, nI49, aM_6, aM_7, aM_8, aM_9, aM_10, aM_11, aM_12, aM_13, aM_14, aM_15, aM_16, aM_17, aM_18, aM_19, aM_20, aM_21, aM_22, aM_23, aM_24, aM_25, aM_26, aM_27, aM_28, aM_29, aM_30, aM_31, aM_38, aM_39, aM_40, aM_41, aM_42, aM_43, aM_44, aM_45, aM_46, aM_47, lM_6, lM_7, lM_8, lM_9, lM_10, lM_11, lM_12, lM_13, lM_14, lM_15, lM_16, lM_17, lM_18, lM_19, lM_20, lM_21, lM_22, lM_23, lM_24, lM_25, lM_26, lM_27, lM_28, lM_29, lM_30, lM_31, lM_38, lM_39, lM_40, lM_41, lM_42, lM_43, lM_44, lM_45, lM_46, lM_47, dX7_ring_0, st_iload_n, dX7_ring_1, st_ifCond, dX7_ring_4, dX7_ring_5, st_iconst, dX7_ring_6, st_if_icmp, dX7_ring_9, st_aload_n, dX7_ring_10, st_bipush, dX7_ring_12, st_invokevirtual, dX7_ring_15, st_ireturn, dX7_ring_16, dX7_ring_17, dX7_ring_20, dX7_ring_21, st_istore_n, dX7_ring_22, dX7_ring_23, st_sipush, dX7_ring_26, dX7_ring_29, dX7_ring_30, dX7_ring_33, dX7_ring_34, dX7_ring_37, st_pop, dX7_ring_38, dX7_ring_39, st_getfield, fl_X7_117, dX7_ring_42, dX7_ring_43, dX7_ring_44, dX7_ring_45, dX7_ring_48, st_lastore, dX7_ring_49, dX7_ring_50, fl_X7_120, dX7_ring_53, dX7_ring_54, dX7_ring_55, dX7_ring_56, dX7_ring_59, dX7_ring_60, st_iinc, dX7_ring_63, st_goto, dX7_ring_66, dX7_ring_67, dX7_ring_70, dX7_ring_71, dX7_ring_72, dX7_ring_73, dX7_ring_76, dX7_ring_79, dX7_ring_80, dX7_ring_81, st_iadd, dX7_ring_82, dX7_ring_83, dX7_ring_84, dX7_ring_87, dX7_ring_90, dX7_ring_91, dX7_ring_94, dX7_ring_95, st_laload, dX7_ring_96, dX7_ring_97, dX7_ring_100, dX7_ring_101, dX7_ring_102, st_lcmp, dX7_ring_103, dX7_ring_106, dX7_ring_107, dX7_ring_110, dX7_ring_111, dX7_ring_112, dX7_ring_113, dX7_ring_116, dX7_ring_117, dX7_ring_118, dX7_ring_119, dX7_ring_122, dX7_ring_123, dX7_ring_126, dX7_ring_127, dX7_ring_130, dX7_ring_131, dX7_ring_132, st_isub, dX7_ring_133, dX7_ring_134, dX7_ring_137, dX7_ring_140, dX7_ring_143, dX7_ring_146, dX7_ring_147, dX7_ring_149, dX7_ring_152, c_X7_ring_136, pX7_no_e, fX7_no_e, Option.toList_some, Option.toList_none, List.cons_append, List.nil_append, c_X7_ring_290, pX7_begins_e, fX7_begins_e, c_X7_ring_284, pX7_beats1_e, fX7_beats1_e, c_X7_ring_313, pX7_mark_e, fX7_mark_e, c_X7_ring_296, pX7_backAgain_e, fX7_backAgain_e, ofJ_1, ofI_m5, ofI_0, ofI_400, ofJ_3, ofI_m6, hp1, hp2, hp3, xwp_s, xcu_s, xcu_n, xPc_e, xsub_0, xsub_n, xsub_s, k38, kn, nI_00, rqU_0, i400, i00, nbP_1, nbP_2, nbP_3, nbP_4, nbP_5, nbP_6, nbP_7]
  simp only [hR2, ringM, noM]
  clear hR2 h38 hp3
  grind (splits := 40)
theorem rX7_ring : ∀ as σ, pX7_ring as σ → ∃ K as', as = .ref K :: as' ∧ xob WM K 7 := by
  rintro as σ ⟨x, rfl, hpre⟩
  exact ⟨_, _, rfl, by first | exact hpre | exact hpre.1 | exact obT hpre | exact obT hpre.1 | exact obS hpre | exact obS hpre.1 | exact obM | exact ob6 | exact ob2 | exact ob0⟩
