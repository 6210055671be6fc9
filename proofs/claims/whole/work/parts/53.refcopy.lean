/-! rows copied, gaits read off rows -/
def cyA (b0 n : Nat) (σ : xS) : xS := (σ.1, fun a b => if a = 28 ∧ b < n then σ.2 27 (b0 + b) else σ.2 a b)
def cyB (b0 n : Nat) (σ : xS) : xS := (σ.1, fun a b => if a = 27 ∧ b0 ≤ b ∧ b < b0 + n then σ.2 28 (b - b0) else σ.2 a b)
theorem cyA_s {b0 k : Nat} {σ : xS} : xJ (cyA b0 k σ) 28 k (σ.2 27 (b0 + k)) = cyA b0 (k + 1) σ := by
  refine xS_e (fun a b => rfl) (fun a b => ?_)
  show (if a = 28 ∧ b = k then σ.2 27 (b0 + k) else if a = 28 ∧ b < k then σ.2 27 (b0 + b) else σ.2 a b) = if a = 28 ∧ b < k + 1 then σ.2 27 (b0 + b) else σ.2 a b
  by_cases h1 : a = 28 ∧ b = k
  · rw [if_pos h1, if_pos ⟨h1.1, by omega⟩, h1.2]
  · rw [if_neg h1]
    by_cases h2 : a = 28 ∧ b < k
    · rw [if_pos h2, if_pos ⟨h2.1, by omega⟩]
    · rw [if_neg h2, if_neg (by omega)]
theorem cyA_0 {b0 : Nat} {σ : xS} : cyA b0 0 σ = σ := by
  refine xS_e (fun a b => rfl) (fun a b => ?_)
  show (if a = 28 ∧ b < 0 then σ.2 27 (b0 + b) else σ.2 a b) = σ.2 a b
  rw [if_neg (by omega)]
theorem cyA_27 {b0 n c : Nat} {σ : xS} : (cyA b0 n σ).2 27 c = σ.2 27 c := by
  show (if 27 = 28 ∧ c < n then σ.2 27 (b0 + c) else σ.2 27 c) = _
  rw [if_neg (by omega)]
theorem cyA_1 {b0 n a c : Nat} {σ : xS} : (cyA b0 n σ).1 a c = σ.1 a c := rfl
theorem cyB_1 {b0 n a c : Nat} {σ : xS} : (cyB b0 n σ).1 a c = σ.1 a c := rfl
theorem cyB_28 {b0 n c : Nat} {σ : xS} : (cyB b0 n σ).2 28 c = σ.2 28 c := by
  show (if 28 = 27 ∧ b0 ≤ c ∧ c < b0 + n then σ.2 28 (c - b0) else σ.2 28 c) = _
  rw [if_neg (by omega)]
theorem cyB_s {b0 k : Nat} {σ : xS} : xJ (cyB b0 k σ) 27 (b0 + k) (σ.2 28 k) = cyB b0 (k + 1) σ := by
  refine xS_e (fun a b => rfl) (fun a b => ?_)
  show (if a = 27 ∧ b = b0 + k then σ.2 28 k else if a = 27 ∧ b0 ≤ b ∧ b < b0 + k then σ.2 28 (b - b0) else σ.2 a b) = if a = 27 ∧ b0 ≤ b ∧ b < b0 + (k + 1) then σ.2 28 (b - b0) else σ.2 a b
  by_cases h1 : a = 27 ∧ b = b0 + k
  · rw [if_pos h1, if_pos ⟨h1.1, by omega, by omega⟩, h1.2, Nat.add_sub_cancel_left]
  · rw [if_neg h1]
    by_cases h2 : a = 27 ∧ b0 ≤ b ∧ b < b0 + k
    · rw [if_pos h2, if_pos ⟨h2.1, by omega, by omega⟩]
    · rw [if_neg h2, if_neg (by omega)]
theorem cyB_0 {b0 : Nat} {σ : xS} : cyB b0 0 σ = σ := by
  refine xS_e (fun a b => rfl) (fun a b => ?_)
  show (if a = 27 ∧ b0 ≤ b ∧ b < b0 + 0 then σ.2 28 (b - b0) else σ.2 a b) = σ.2 a b
  rw [if_neg (by omega)]
def cpyM (σ : xS) (p q i j n : Int32) : Int32 × xS := if ¬ (0 ≤ p ∧ p < 8) ∨ ¬ (0 ≤ q ∧ q < 8) then noM σ (-1) else if σ.1 23 (tn p) = 2 ∨ σ.1 23 (tn q) = 2 ∨ (σ.1 23 (tn p) = 1 ∧ σ.1 23 (tn q) = 1 ∧ ¬ σ.1 24 (tn p) = σ.1 24 (tn q)) then noM σ (-2) else if σ.1 23 (tn p) = 0 ∨ σ.1 23 (tn q) = 0 then noM σ (-3) else if n < 0 then noM σ (-4) else if i < 0 ∨ j < 0 ∨ σ.1 25 (tn p) - n < i ∨ σ.1 25 (tn q) - n < j then noM σ (-5) else (1, cyB (160 * tn q + tn j) (tn n) (cyA (160 * tn p + tn i) (tn n) σ))
def cgM (σ : xS) (p q i j n : Int32) : Prop := ¬ (¬ (0 ≤ p ∧ p < 8) ∨ ¬ (0 ≤ q ∧ q < 8)) ∧ ¬ (σ.1 23 (tn p) = 2 ∨ σ.1 23 (tn q) = 2 ∨ (σ.1 23 (tn p) = 1 ∧ σ.1 23 (tn q) = 1 ∧ ¬ σ.1 24 (tn p) = σ.1 24 (tn q))) ∧ ¬ (σ.1 23 (tn p) = 0 ∨ σ.1 23 (tn q) = 0) ∧ ¬ n < 0 ∧ ¬ (i < 0 ∨ j < 0 ∨ σ.1 25 (tn p) - n < i ∨ σ.1 25 (tn q) - n < j)
theorem cg_rng {z i n : Int32} (hz : 0 ≤ z ∧ z ≤ 160) (hn : ¬ n < 0) (hi : ¬ i < 0) (h : ¬ z - n < i) : tn i + tn n ≤ 160 := by
  have a1 := t_le.mp hz.1
  have a2 := t_le.mp hz.2
  have a3 := t_le.mp (Int32.not_lt.mp hn)
  have a4 := t_le.mp (Int32.not_lt.mp hi)
  have a5 := t_le.mp (Int32.not_lt.mp h)
  rw [t_0] at a1 a3 a4
  rw [t_160] at a2
  have r := t_rng n
  have s : (z - n).toInt = z.toInt - n.toInt := t_sub (by omega) (by omega)
  rw [s] at a5
  rw [t_tn, t_tn]
  omega
def pX7_copy (as : List Value) (σ : xS) : Prop := ∃ (p : Int32) (q : Int32) (i : Int32) (j : Int32) (n : Int32), as = [.ref 0, .int p, .int q, .int i, .int j, .int n] ∧ (∀ s, (0 ≤ s ∧ s < 8) → 0 ≤ σ.1 25 (tn s) ∧ σ.1 25 (tn s) ≤ 160)
def fX7_copy (as : List Value) (σ : xS) : Option Value × xS := match as with
  | [.ref 0, .int p, .int q, .int i, .int j, .int n] => (some (.int (cpyM σ p q i j n).1), (cpyM σ p q i j n).2)
  | _ => (none, σ)
theorem pX7_copy_e {p : Int32} {q : Int32} {i : Int32} {j : Int32} {n : Int32} {σ : xS} : pX7_copy [.ref 0, .int p, .int q, .int i, .int j, .int n] σ = (∀ s, (0 ≤ s ∧ s < 8) → 0 ≤ σ.1 25 (tn s) ∧ σ.1 25 (tn s) ≤ 160) := propext ⟨fun h => by obtain ⟨p, q, i, j, n, e, h⟩ := h; cases e; exact h, fun h => ⟨p, q, i, j, n, rfl, h⟩⟩
theorem fX7_copy_e {p : Int32} {q : Int32} {i : Int32} {j : Int32} {n : Int32} {σ : xS} : fX7_copy [.ref 0, .int p, .int q, .int i, .int j, .int n] σ = (some (.int (cpyM σ p q i j n).1), (cpyM σ p q i j n).2) := rfl
def calX7_copy : List (Nat × xCall) := [(132, (false, 2, pX7_isShelf, fX7_isShelf)), (136, (false, 2, pX7_no, fX7_no))]
theorem c_X7_copy_132 : xlk calX7_copy 132 = some (false, 2, pX7_isShelf, fX7_isShelf) := rfl
theorem c_X7_copy_136 : xlk calX7_copy 136 = some (false, 2, pX7_no, fX7_no) := rfl
set_option maxHeartbeats 4000000 in
set_option maxRecDepth 100000 in
theorem mX7_copy : xMet WM yX7_copy cX7_copy 7 (some .int) 2 pX7_copy fX7_copy := by
  refine xMet_of (fld := xlk fldX7) (cal := xlk calX7_copy) (ks := xlk []) (gs := xlk []) (ro := fun _ => none) 0 (by decide) WM_nd rfl fldX7_ok xKs_nil xGs_nil (Or.inr rfl) (xcal_cons (xCk_V mX7_isShelf 7 (by decide) (by decide) (by decide) rfl (fun as σ h _ => rX7_isShelf as σ h) w_X7_132 ⟨by decide, by decide, by decide +kernel⟩) (xcal_cons (xCk_V mX7_no 7 (by decide) (by decide) (by decide) rfl (fun as σ h _ => rX7_no as σ h) w_X7_136 ⟨by decide, by decide, by decide +kernel⟩) xcal_nil)) ?_ ?_
  · rintro av σ ⟨p, q, i, j, n, rfl, hpre⟩
    exact Nat.le_of_ble_eq_true rfl
  rintro av σ ⟨p, q, i, j, n, rfl, hp1⟩ Rt hR
  have hR2 := hR2_g (Rt := Rt) (F := cpyM σ p q i j n) (fun r s' => by rw [hR, fX7_copy_e])
  clear hR
  have h8p : 0 ≤ p ∧ p < 8 → tn p < 8 := tn8
  have h8q : 0 ≤ q ∧ q < 8 → tn q < 8 := tn8
  have h167 : cgM σ p q i j n → xGo WM 7 (xlk fldX7) (xlk calX7_copy) (xlk []) (xlk []) (fun _ => none) 0 cX7_copy Rt 167 [some (.ref 0), some (.int p), some (.int q), some (.int i), some (.int j), some (.int n), some (.int (nI 0))] [] (cyA (160 * tn p + tn i) 0 σ) := fun hg => by
    obtain ⟨g1, g2, g3, g4, g5⟩ := hg
    have g0 : cpyM σ p q i j n = (1, cyB (160 * tn q + tn j) (tn n) (cyA (160 * tn p + tn i) (tn n) σ)) := by rw [cpyM, if_neg g1, if_neg g2, if_neg g3, if_neg g4, if_neg g5]
    rw [g0] at hR2
    clear g0 g2 g3
    have hp : 0 ≤ p ∧ p < 8 := Classical.not_not.mp (fun z => g1 (Or.inl z))
    have hq : 0 ≤ q ∧ q < 8 := Classical.not_not.mp (fun z => g1 (Or.inr z))
    have hi0 : ¬ i < 0 := fun z => g5 (Or.inl z)
    have hj0 : ¬ j < 0 := fun z => g5 (Or.inr (Or.inl z))
    have r1 := cg_rng (hp1 p hp) g4 hi0 (fun z => g5 (Or.inr (Or.inr (Or.inl z))))
    have r2 := cg_rng (hp1 q hq) g4 hj0 (fun z => g5 (Or.inr (Or.inr (Or.inr z))))
    have b1 := tn8 hp
    have b2 := tn8 hq
    have i1 : 160 * p + i = nI (160 * tn p + tn i) := by rw [← ixn hp, tn_of (Int32.not_lt.mp hi0)]
    have i2 : 160 * q + j = nI (160 * tn q + tn j) := by rw [← ixn hq, tn_of (Int32.not_lt.mp hj0)]
    clear h8p h8q g1 g4 g5 hi0 hj0
    generalize hb : 160 * tn p + tn i = b0 at *
    generalize hcc : 160 * tn q + tn j = c0 at *
    have l1 : b0 + tn n ≤ 1280 := by omega
    have l2 : c0 + tn n ≤ 1280 := by omega
    generalize hT : cyA b0 (tn n) σ = T at *
    have h2 : ∀ k, k ≤ tn n → xGo WM 7 (xlk fldX7) (xlk calX7_copy) (xlk []) (xlk []) (fun _ => none) 0 cX7_copy Rt 205 [some (.ref 0), some (.int p), some (.int q), some (.int i), some (.int j), some (.int n), some (.int (nI k))] [] (cyB c0 k T) := by
      refine xcount (tn n) (fun k => xGo WM 7 (xlk fldX7) (xlk calX7_copy) (xlk []) (xlk []) (fun _ => none) 0 cX7_copy Rt 205 [some (.ref 0), some (.int p), some (.int q), some (.int i), some (.int j), some (.int n), some (.int (nI k))] [] (cyB c0 k T)) (fun k hk ih => ?_)
      have hc := le_nI_tn (i := k) (x := n) hk
      have q0 : 0 ≤ nI (c0 + k) := nI_pos' (by omega)
      have q1 : tn (nI (c0 + k)) = c0 + k := tn_nI (by omega)
      have e0 : 0 ≤ nI k := nI_pos' (by omega)
      have e1 : nI k + 1 = nI (k + 1) := nI_1 k
      have e2 : tn (nI k) = k := tn_nI (by omega)
      refine xtoCs [(205, xPc (k < tn n) [some (.ref 0), some (.int p), some (.int q), some (.int i), some (.int j), some (.int n), some (.int (nI (k + 1)))] (cyB c0 (k + 1) T))] (xcs_cons (ih) xcs_nil) 24 (fun cf hcf => ?_)
      have k205 : cf 205 = some (xPc (k < tn n) [some (.ref 0), some (.int p), some (.int q), some (.int i), some (.int j), some (.int n), some (.int (nI (k + 1)))] (cyB c0 (k + 1) T)) := (hcf 205).trans rfl
      have kn : ∀ pc, ¬ pc = 205 → cf pc = none := fun pc h0 => by rw [hcf, xlk_c, if_neg h0, xlk_n]
      clear hcf
      simp (config := {maxSteps := 4000000, implicitDefEqProofs := false}) only [xwp_2, xwp_0, xwp_1, xws_s, xdd_o, xld_0, xld_s, xs1_0, xs1_1, xs1_s, xs2_0, xs2_1, xs2_s, xlg_n, xlg_i, xlg_r, xlg_z, xlg_l, xf4_0, xf4_1, xf4_2, xf4_3, xgo_e, xcmp_eq, xcmp_ne, xcmp_lt, xcmp_ge, xcmp_gt, xcmp_le, xfg_0, xfg_1, xfg_2, xfg_3, xfg_4, xpop_0, xpop_s, xsw_n, xsw_c, xtb_n, xtb_c, xenp_n, xenp_i, xenp_r, xenp_z, xenp_l, xrep_0, xrep_s, Nat.reduceSub, true_and, and_true, cat_i, cat_r, Nat.reduceAdd, Nat.reduceLT, Nat.reduceLeDiff, Nat.reduceEqDiff, xnc, Int.reduceAdd, Int.reduceSub, Int.reduceNeg, Int.reduceLE, Int.reduceLT, Int.reduceToNat, ↓reduceIte, List.length_cons, List.length_nil, xlc0, xlc1, ite_10, i10, i01, i0_2, i0_3, i0_4, i0_6, i0_7, i0_8, i0_49, i0_10, or_true, true_or, or_false, false_or, not_false_eq_true, not_true_eq_false, xnt, xI_g, eq_self, xI_2, xJ_1, false_and, and_false, obM_t, rMi, vp_tn, tn_def, lgc, nI8, nI6, nI160, nI20, nI401, nI49, aM_6, aM_7, aM_8, aM_9, aM_10, aM_11, aM_12, aM_13, aM_14, aM_15, aM_16, aM_17, aM_18, aM_19, aM_20, aM_21, aM_22, aM_23, aM_24, aM_25, aM_26, aM_27, aM_28, aM_29, aM_30, aM_31, aM_38, aM_39, aM_40, aM_41, aM_42, aM_43, aM_44, aM_45, aM_46, aM_47, lM_6, lM_7, lM_8, lM_9, lM_10, lM_11, lM_12, lM_13, lM_14, lM_15, lM_16, lM_17, lM_18, lM_19, lM_20, lM_21, lM_22, lM_23, lM_24, lM_25, lM_26, lM_27, lM_28, lM_29, lM_30, lM_31, lM_38, lM_39, lM_40, lM_41, lM_42, lM_43, lM_44, lM_45, lM_46, lM_47, dX7_copy_0, st_aload_n, dX7_copy_1, st_iload_n, dX7_copy_2, st_invokevirtual, dX7_copy_5, st_ifCond, dX7_copy_8, dX7_copy_9, dX7_copy_10, dX7_copy_13, dX7_copy_16, dX7_copy_17, st_iconst, dX7_copy_18, dX7_copy_21, st_ireturn, dX7_copy_22, dX7_copy_23, st_getfield, fl_X7_68, dX7_copy_26, dX7_copy_27, st_iaload, dX7_copy_28, dX7_copy_29, st_if_icmp, dX7_copy_32, dX7_copy_33, dX7_copy_36, dX7_copy_37, dX7_copy_38, dX7_copy_39, dX7_copy_42, dX7_copy_43, dX7_copy_46, dX7_copy_47, dX7_copy_48, dX7_copy_49, dX7_copy_52, dX7_copy_53, dX7_copy_56, dX7_copy_57, dX7_copy_58, dX7_copy_59, dX7_copy_62, dX7_copy_63, fl_X7_71, dX7_copy_66, dX7_copy_67, dX7_copy_68, dX7_copy_69, dX7_copy_72, dX7_copy_73, dX7_copy_74, dX7_copy_77, dX7_copy_78, st_bipush, dX7_copy_80, dX7_copy_83, dX7_copy_84, dX7_copy_85, dX7_copy_88, dX7_copy_89, dX7_copy_90, dX7_copy_93, dX7_copy_94, dX7_copy_97, dX7_copy_98, dX7_copy_99, dX7_copy_102, dX7_copy_103, dX7_copy_105, dX7_copy_108, dX7_copy_109, st_iload, dX7_copy_111, dX7_copy_114, dX7_copy_115, dX7_copy_117, dX7_copy_120, dX7_copy_121, dX7_copy_122, dX7_copy_125, dX7_copy_127, dX7_copy_130, dX7_copy_131, dX7_copy_132, fl_X7_74, dX7_copy_135, dX7_copy_136, dX7_copy_137, dX7_copy_139, st_isub, dX7_copy_140, dX7_copy_143, dX7_copy_145, dX7_copy_146, dX7_copy_149, dX7_copy_150, dX7_copy_151, dX7_copy_153, dX7_copy_154, dX7_copy_157, dX7_copy_158, dX7_copy_160, dX7_copy_163, dX7_copy_164, dX7_copy_165, st_istore, dX7_copy_167, dX7_copy_169, dX7_copy_171, dX7_copy_174, dX7_copy_175, fl_X7_84, dX7_copy_178, dX7_copy_180, dX7_copy_181, fl_X7_80, dX7_copy_184, st_sipush, dX7_copy_187, dX7_copy_188, st_imul, dX7_copy_189, dX7_copy_190, st_iadd, dX7_copy_191, dX7_copy_193, dX7_copy_194, st_laload, dX7_copy_195, st_lastore, dX7_copy_196, st_iinc, dX7_copy_199, st_goto, dX7_copy_202, dX7_copy_203, dX7_copy_205, dX7_copy_207, dX7_copy_209, dX7_copy_212, dX7_copy_213, dX7_copy_216, dX7_copy_219, dX7_copy_220, dX7_copy_221, dX7_copy_223, dX7_copy_224, dX7_copy_226, dX7_copy_227, dX7_copy_228, dX7_copy_231, dX7_copy_233, dX7_copy_234, dX7_copy_235, dX7_copy_238, dX7_copy_241, dX7_copy_242, c_X7_copy_132, pX7_isShelf_e, fX7_isShelf_e, Option.toList_some, Option.toList_none, List.cons_append, List.nil_append, c_X7_copy_136, pX7_no_e, fX7_no_e, ofI_m1, ofJ_2, ofJ_1, ofI_m2, ofI_m3, ofI_m4, ofI_m5, ofI_0, ofI_160, hp1, xwp_s, xcu_s, xcu_n, xPc_e, xsub_0, xsub_n, xsub_s, k205, kn, hc, e0, e1, e2, i2, nI_add, q0, q1, cyB_28, cyB_s]
      have fin : ¬ k < tn n → cyB c0 k T = cyB c0 (tn n) T := fun h => by rw [show k = tn n by omega]
      have h8 : k < tn n → k < 160 ∧ c0 + k < 1280 := fun h => by omega
      simp only [hR2]
      clear hR2 hc ih hT
      generalize cyB c0 (tn n) T = Z at *
      generalize cyB c0 k T = U at *
      grind (splits := 40)
    have h1 : ∀ k, k ≤ tn n → xGo WM 7 (xlk fldX7) (xlk calX7_copy) (xlk []) (xlk []) (fun _ => none) 0 cX7_copy Rt 167 [some (.ref 0), some (.int p), some (.int q), some (.int i), some (.int j), some (.int n), some (.int (nI k))] [] (cyA b0 k σ) := by
      refine xcount (tn n) (fun k => xGo WM 7 (xlk fldX7) (xlk calX7_copy) (xlk []) (xlk []) (fun _ => none) 0 cX7_copy Rt 167 [some (.ref 0), some (.int p), some (.int q), some (.int i), some (.int j), some (.int n), some (.int (nI k))] [] (cyA b0 k σ)) (fun k hk ih => ?_)
      have hc := le_nI_tn (i := k) (x := n) hk
      have q0 : 0 ≤ nI (b0 + k) := nI_pos' (by omega)
      have q1 : tn (nI (b0 + k)) = b0 + k := tn_nI (by omega)
      have e0 : 0 ≤ nI k := nI_pos' (by omega)
      have e1 : nI k + 1 = nI (k + 1) := nI_1 k
      have e2 : tn (nI k) = k := tn_nI (by omega)
      refine xtoCs [(167, xPc (k < tn n) [some (.ref 0), some (.int p), some (.int q), some (.int i), some (.int j), some (.int n), some (.int (nI (k + 1)))] (cyA b0 (k + 1) σ)), (205, xPc (¬ k < tn n) [some (.ref 0), some (.int p), some (.int q), some (.int i), some (.int j), some (.int n), some (.int (nI 0))] (cyB c0 0 T))] (xcs_cons (ih) (xcs_cons (fun _ => h2 0 (Nat.zero_le _)) xcs_nil)) 26 (fun cf hcf => ?_)
      have k167 : cf 167 = some (xPc (k < tn n) [some (.ref 0), some (.int p), some (.int q), some (.int i), some (.int j), some (.int n), some (.int (nI (k + 1)))] (cyA b0 (k + 1) σ)) := (hcf 167).trans rfl
      have k205 : cf 205 = some (xPc (¬ k < tn n) [some (.ref 0), some (.int p), some (.int q), some (.int i), some (.int j), some (.int n), some (.int (nI 0))] (cyB c0 0 T)) := (hcf 205).trans rfl
      have kn : ∀ pc, ¬ pc = 167 → ¬ pc = 205 → cf pc = none := fun pc h0 h1 => by rw [hcf, xlk_c, if_neg h0, xlk_c, if_neg h1, xlk_n]
      clear hcf
      simp (config := {maxSteps := 4000000, implicitDefEqProofs := false}) only [xwp_2, xwp_0, xwp_1, xws_s, xdd_o, xld_0, xld_s, xs1_0, xs1_1, xs1_s, xs2_0, xs2_1, xs2_s, xlg_n, xlg_i, xlg_r, xlg_z, xlg_l, xf4_0, xf4_1, xf4_2, xf4_3, xgo_e, xcmp_eq, xcmp_ne, xcmp_lt, xcmp_ge, xcmp_gt, xcmp_le, xfg_0, xfg_1, xfg_2, xfg_3, xfg_4, xpop_0, xpop_s, xsw_n, xsw_c, xtb_n, xtb_c, xenp_n, xenp_i, xenp_r, xenp_z, xenp_l, xrep_0, xrep_s, Nat.reduceSub, true_and, and_true, cat_i, cat_r, Nat.reduceAdd, Nat.reduceLT, Nat.reduceLeDiff, Nat.reduceEqDiff, xnc, Int.reduceAdd, Int.reduceSub, Int.reduceNeg, Int.reduceLE, Int.reduceLT, Int.reduceToNat, ↓reduceIte, List.length_cons, List.length_nil, xlc0, xlc1, ite_10, i10, i01, i0_2, i0_3, i0_4, i0_6, i0_7, i0_8, i0_49, i0_10, or_true, true_or, or_false, false_or, not_false_eq_true, not_true_eq_false, xnt, xI_g, eq_self, xI_2, xJ_1, false_and, and_false, obM_t, rMi, vp_tn, tn_def, lgc, nI8, nI6, nI160, nI20, nI401, nI49, aM_6, aM_7, aM_8, aM_9, aM_10, aM_11, aM_12, aM_13, aM_14, aM_15, aM_16, aM_17, aM_18, aM_19, aM_20, aM_21, aM_22, aM_23, aM_24, aM_25, aM_26, aM_27, aM_28, aM_29, aM_30, aM_31, aM_38, aM_39, aM_40, aM_41, aM_42, aM_43, aM_44, aM_45, aM_46, aM_47, lM_6, lM_7, lM_8, lM_9, lM_10, lM_11, lM_12, lM_13, lM_14, lM_15, lM_16, lM_17, lM_18, lM_19, lM_20, lM_21, lM_22, lM_23, lM_24, lM_25, lM_26, lM_27, lM_28, lM_29, lM_30, lM_31, lM_38, lM_39, lM_40, lM_41, lM_42, lM_43, lM_44, lM_45, lM_46, lM_47, dX7_copy_0, st_aload_n, dX7_copy_1, st_iload_n, dX7_copy_2, st_invokevirtual, dX7_copy_5, st_ifCond, dX7_copy_8, dX7_copy_9, dX7_copy_10, dX7_copy_13, dX7_copy_16, dX7_copy_17, st_iconst, dX7_copy_18, dX7_copy_21, st_ireturn, dX7_copy_22, dX7_copy_23, st_getfield, fl_X7_68, dX7_copy_26, dX7_copy_27, st_iaload, dX7_copy_28, dX7_copy_29, st_if_icmp, dX7_copy_32, dX7_copy_33, dX7_copy_36, dX7_copy_37, dX7_copy_38, dX7_copy_39, dX7_copy_42, dX7_copy_43, dX7_copy_46, dX7_copy_47, dX7_copy_48, dX7_copy_49, dX7_copy_52, dX7_copy_53, dX7_copy_56, dX7_copy_57, dX7_copy_58, dX7_copy_59, dX7_copy_62, dX7_copy_63, fl_X7_71, dX7_copy_66, dX7_copy_67, dX7_copy_68, dX7_copy_69, dX7_copy_72, dX7_copy_73, dX7_copy_74, dX7_copy_77, dX7_copy_78, st_bipush, dX7_copy_80, dX7_copy_83, dX7_copy_84, dX7_copy_85, dX7_copy_88, dX7_copy_89, dX7_copy_90, dX7_copy_93, dX7_copy_94, dX7_copy_97, dX7_copy_98, dX7_copy_99, dX7_copy_102, dX7_copy_103, dX7_copy_105, dX7_copy_108, dX7_copy_109, st_iload, dX7_copy_111, dX7_copy_114, dX7_copy_115, dX7_copy_117, dX7_copy_120, dX7_copy_121, dX7_copy_122, dX7_copy_125, dX7_copy_127, dX7_copy_130, dX7_copy_131, dX7_copy_132, fl_X7_74, dX7_copy_135, dX7_copy_136, dX7_copy_137, dX7_copy_139, st_isub, dX7_copy_140, dX7_copy_143, dX7_copy_145, dX7_copy_146, dX7_copy_149, dX7_copy_150, dX7_copy_151, dX7_copy_153, dX7_copy_154, dX7_copy_157, dX7_copy_158, dX7_copy_160, dX7_copy_163, dX7_copy_164, dX7_copy_165, st_istore, dX7_copy_167, dX7_copy_169, dX7_copy_171, dX7_copy_174, dX7_copy_175, fl_X7_84, dX7_copy_178, dX7_copy_180, dX7_copy_181, fl_X7_80, dX7_copy_184, st_sipush, dX7_copy_187, dX7_copy_188, st_imul, dX7_copy_189, dX7_copy_190, st_iadd, dX7_copy_191, dX7_copy_193, dX7_copy_194, st_laload, dX7_copy_195, st_lastore, dX7_copy_196, st_iinc, dX7_copy_199, st_goto, dX7_copy_202, dX7_copy_203, dX7_copy_205, dX7_copy_207, dX7_copy_209, dX7_copy_212, dX7_copy_213, dX7_copy_216, dX7_copy_219, dX7_copy_220, dX7_copy_221, dX7_copy_223, dX7_copy_224, dX7_copy_226, dX7_copy_227, dX7_copy_228, dX7_copy_231, dX7_copy_233, dX7_copy_234, dX7_copy_235, dX7_copy_238, dX7_copy_241, dX7_copy_242, c_X7_copy_132, pX7_isShelf_e, fX7_isShelf_e, Option.toList_some, Option.toList_none, List.cons_append, List.nil_append, c_X7_copy_136, pX7_no_e, fX7_no_e, ofI_m1, ofJ_2, ofJ_1, ofI_m2, ofI_m3, ofI_m4, ofI_m5, ofI_0, ofI_160, hp1, xwp_s, xcu_s, xcu_n, xPc_e, xsub_0, xsub_n, xsub_s, k167, k205, kn, hc, e0, e1, e2, i1, nI_add, q0, q1, cyA_27, cyA_s, nI_00]
      have fin : ¬ k < tn n → cyA b0 k σ = cyB c0 0 T := fun h => by rw [show k = tn n by omega, hT, cyB_0]
      have h8 : k < tn n → k < 160 ∧ b0 + k < 1280 := fun h => by omega
      clear hR2 hc ih hT h2
      generalize cyB c0 0 T = Z at *
      generalize cyA b0 k σ = U at *
      grind (splits := 40)
    exact h1 0 (Nat.zero_le _)
  refine xtoC [(167, xPc (cgM σ p q i j n) [some (.ref 0), some (.int p), some (.int q), some (.int i), some (.int j), some (.int n), some (.int (nI 0))] (cyA (160 * tn p + tn i) 0 σ))] (xcs_cons (h167) xcs_nil) 97 (fun cf hcf => ?_)
  have k167 : cf 167 = some (xPc (cgM σ p q i j n) [some (.ref 0), some (.int p), some (.int q), some (.int i), some (.int j), some (.int n), some (.int (nI 0))] (cyA (160 * tn p + tn i) 0 σ)) := (hcf 167).trans rfl
  have kn : ∀ pc, ¬ pc = 167 → cf pc = none := fun pc h0 => by rw [hcf, xlk_c, if_neg h0, xlk_n]
  clear hcf
  simp (config := {maxSteps := 4000000, implicitDefEqProofs := false}) only [xwp_2, xwp_0, xwp_1, xws_s, xdd_o, xld_0, xld_s, xs1_0, xs1_1, xs1_s, xs2_0, xs2_1, xs2_s, xlg_n, xlg_i, xlg_r, xlg_z, xlg_l, xf4_0, xf4_1, xf4_2, xf4_3, xgo_e, xcmp_eq, xcmp_ne, xcmp_lt, xcmp_ge, xcmp_gt, xcmp_le, xfg_0, xfg_1, xfg_2, xfg_3, xfg_4, xpop_0, xpop_s, xsw_n, xsw_c, xtb_n, xtb_c, xenp_n, xenp_i, xenp_r, xenp_z, xenp_l, xrep_0, xrep_s, Nat.reduceSub, true_and, and_true, cat_i, cat_r, Nat.reduceAdd, Nat.reduceLT, Nat.reduceLeDiff, Nat.reduceEqDiff, xnc, Int.reduceAdd, Int.reduceSub, Int.reduceNeg, Int.reduceLE, Int.reduceLT, Int.reduceToNat, ↓reduceIte, List.length_cons, List.length_nil, xlc0, xlc1, ite_10, i10, i01, i0_2, i0_3, i0_4, i0_6, i0_7, i0_8, i0_49, i0_10, or_true, true_or, or_false, false_or, not_false_eq_true, not_true_eq_false, xnt, xI_g, eq_self, xI_2, xJ_1, false_and, and_false, obM_t, rMi, vp_tn, tn_def, lgc, nI8, nI6, nI160, nI20, nI401, nI49, aM_6, aM_7, aM_8, aM_9, aM_10, aM_11, aM_12, aM_13, aM_14, aM_15, aM_16, aM_17, aM_18, aM_19, aM_20, aM_21, aM_22, aM_23, aM_24, aM_25, aM_26, aM_27, aM_28, aM_29, aM_30, aM_31, aM_38, aM_39, aM_40, aM_41, aM_42, aM_43, aM_44, aM_45, aM_46, aM_47, lM_6, lM_7, lM_8, lM_9, lM_10, lM_11, lM_12, lM_13, lM_14, lM_15, lM_16, lM_17, lM_18, lM_19, lM_20, lM_21, lM_22, lM_23, lM_24, lM_25, lM_26, lM_27, lM_28, lM_29, lM_30, lM_31, lM_38, lM_39, lM_40, lM_41, lM_42, lM_43, lM_44, lM_45, lM_46, lM_47, dX7_copy_0, st_aload_n, dX7_copy_1, st_iload_n, dX7_copy_2, st_invokevirtual, dX7_copy_5, st_ifCond, dX7_copy_8, dX7_copy_9, dX7_copy_10, dX7_copy_13, dX7_copy_16, dX7_copy_17, st_iconst, dX7_copy_18, dX7_copy_21, st_ireturn, dX7_copy_22, dX7_copy_23, st_getfield, fl_X7_68, dX7_copy_26, dX7_copy_27, st_iaload, dX7_copy_28, dX7_copy_29, st_if_icmp, dX7_copy_32, dX7_copy_33, dX7_copy_36, dX7_copy_37, dX7_copy_38, dX7_copy_39, dX7_copy_42, dX7_copy_43, dX7_copy_46, dX7_copy_47, dX7_copy_48, dX7_copy_49, dX7_copy_52, dX7_copy_53, dX7_copy_56, dX7_copy_57, dX7_copy_58, dX7_copy_59, dX7_copy_62, dX7_copy_63, fl_X7_71, dX7_copy_66, dX7_copy_67, dX7_copy_68, dX7_copy_69, dX7_copy_72, dX7_copy_73, dX7_copy_74, dX7_copy_77, dX7_copy_78, st_bipush, dX7_copy_80, dX7_copy_83, dX7_copy_84, dX7_copy_85, dX7_copy_88, dX7_copy_89, dX7_copy_90, dX7_copy_93, dX7_copy_94, dX7_copy_97, dX7_copy_98, dX7_copy_99, dX7_copy_102, dX7_copy_103, dX7_copy_105, dX7_copy_108, dX7_copy_109, st_iload, dX7_copy_111, dX7_copy_114, dX7_copy_115, dX7_copy_117, dX7_copy_120, dX7_copy_121, dX7_copy_122, dX7_copy_125, dX7_copy_127, dX7_copy_130, dX7_copy_131, dX7_copy_132, fl_X7_74, dX7_copy_135, dX7_copy_136, dX7_copy_137, dX7_copy_139, st_isub, dX7_copy_140, dX7_copy_143, dX7_copy_145, dX7_copy_146, dX7_copy_149, dX7_copy_150, dX7_copy_151, dX7_copy_153, dX7_copy_154, dX7_copy_157, dX7_copy_158, dX7_copy_160, dX7_copy_163, dX7_copy_164, dX7_copy_165, st_istore, dX7_copy_167, dX7_copy_169, dX7_copy_171, dX7_copy_174, dX7_copy_175, fl_X7_84, dX7_copy_178, dX7_copy_180, dX7_copy_181, fl_X7_80, dX7_copy_184, st_sipush, dX7_copy_187, dX7_copy_188, st_imul, dX7_copy_189, dX7_copy_190, st_iadd, dX7_copy_191, dX7_copy_193, dX7_copy_194, st_laload, dX7_copy_195, st_lastore, dX7_copy_196, st_iinc, dX7_copy_199, st_goto, dX7_copy_202, dX7_copy_203, dX7_copy_205, dX7_copy_207, dX7_copy_209, dX7_copy_212, dX7_copy_213, dX7_copy_216, dX7_copy_219, dX7_copy_220, dX7_copy_221, dX7_copy_223, dX7_copy_224, dX7_copy_226, dX7_copy_227, dX7_copy_228, dX7_copy_231, dX7_copy_233, dX7_copy_234, dX7_copy_235, dX7_copy_238, dX7_copy_241, dX7_copy_242, c_X7_copy_132, pX7_isShelf_e, fX7_isShelf_e, Option.toList_some, Option.toList_none, List.cons_append, List.nil_append, c_X7_copy_136, pX7_no_e, fX7_no_e, ofI_m1, ofJ_2, ofJ_1, ofI_m2, ofI_m3, ofI_m4, ofI_m5, ofI_0, ofI_160, hp1, xwp_s, xcu_s, xcu_n, xPc_e, xsub_0, xsub_n, xsub_s, k167, kn, nI_00, cyA_0, nbP_1, nbP_2, nbP_3, nbP_4, nbP_5, nbP_6, nbP_7]
  simp only [hR2, cpyM, noM, cgM]
  clear hR2 h167 hp1
  generalize cyB (160 * tn q + tn j) (tn n) (cyA (160 * tn p + tn i) (tn n) σ) = Z at *
  generalize σ.1 25 (tn p) - n = m1 at *
  generalize σ.1 25 (tn q) - n = m2 at *
  generalize cyA (160 * tn p + tn i) 0 σ = Z2 at *
  repeat' (first | refine And.intro ?_ ?_ | intro _)
  all_goals grind (splits := 60)
theorem rX7_copy : ∀ as σ, pX7_copy as σ → ∃ K as', as = .ref K :: as' ∧ xob WM K 7 := by
  rintro as σ ⟨p, q, i, j, n, rfl, hpre⟩
  exact ⟨_, _, rfl, by first | exact hpre | exact hpre.1 | exact obT hpre | exact obT hpre.1 | exact obS hpre | exact obS hpre.1 | exact obM | exact ob6 | exact ob2 | exact ob0⟩
def gtB (σ : xS) (s : Int32) (i : Nat) : Bool := decide (inM σ s (nI i) < 0 ∨ 3 < inM σ s (nI i))
def gtS (σ : xS) (s : Int32) : Nat → xS
  | 0 => σ
  | i + 1 => xI (gtS σ s i) 7 (8 * tn (σ.1 0 0) + i) (inM σ s (nI i))
theorem gtS_0 {σ : xS} {s : Int32} : gtS σ s 0 = σ := rfl
theorem gtS_s {σ : xS} {s : Int32} {i : Nat} : xI (gtS σ s i) 7 (8 * tn (σ.1 0 0) + i) (inM σ s (nI i)) = gtS σ s (i + 1) := rfl
theorem gtS_o {σ : xS} {s : Int32} {a c : Nat} (h : a ≠ 7) : ∀ {i : Nat}, (gtS σ s i).1 a c = σ.1 a c
  | 0 => rfl
  | i + 1 => by rw [gtS, xI_n (by omega)]; exact gtS_o h
theorem gtS_2 {σ : xS} {s : Int32} : ∀ {i : Nat}, (gtS σ s i).2 = σ.2
  | 0 => rfl
  | i + 1 => gtS_2 (i := i)
theorem gtS_in {σ : xS} {s x : Int32} {i : Nat} : inM (gtS σ s i) s x = inM σ s x := by unfold inM; rw [gtS_2]
theorem gtS_k {σ : xS} {s : Int32} {i c : Nat} : (gtS σ s i).1 0 c = σ.1 0 c := gtS_o (by omega)
theorem nbP_wt {σ : xS} {s : Int32} : nbP (wtM σ s) = True := by
  have e0 : nbP 0 = True := eq_true ⟨by decide, by decide⟩
  unfold wtM
  split
  · exact nbP_1
  · split
    · exact nbP_2
    · split
      · exact nbP_3
      · exact e0
theorem nbP_br {σ : xS} {s n d : Int32} : nbP (brM σ s n d) = True := by
  have e0 : nbP 0 = True := eq_true ⟨by decide, by decide⟩
  unfold brM
  split
  · split
    · exact nbP_4
    · split
      · exact nbP_5
      · exact e0
  · exact nbP_wt
theorem wt_s {σ : xS} {s : Int32} (h : wtM σ s = 0) : (0 ≤ s ∧ s < 8) ∧ ¬ σ.1 23 (tn s) = 2 ∧ ¬ σ.1 23 (tn s) = 0 := by
  unfold wtM at h
  split at h
  · exact absurd h (by decide)
  · rename_i h1
    split at h
    · exact absurd h (by decide)
    · rename_i h2
      split at h
      · exact absurd h (by decide)
      · rename_i h3
        exact ⟨Classical.not_not.mp h1, h2, h3⟩
theorem br_s {σ : xS} {s n d : Int32} (h : brM σ s n d = 0) : wtM σ s = 0 := by
  unfold brM at h
  split at h
  · assumption
  · assumption
def gtF (σ : xS) (s n a : Int32) : xS := xI (xI (xI (gtS σ s (tn n)) 8 (tn (σ.1 0 0)) n) 9 (tn (σ.1 0 0)) a) 0 0 (σ.1 0 0 + 1)
def gaiM (σ : xS) (s n a : Int32) : Int32 × xS := if ¬ brM σ s n 1 = 0 then noM σ (brM σ s n 1) else if n < 1 ∨ 8 < n ∨ a < 0 ∨ 2 < a then noM σ (-6) else if xany (gtB σ s) (tn n) = true then noM σ (-6) else if σ.1 0 0 = 8 then noM σ (-7) else (σ.1 0 0, gtF σ s n a)
theorem ixg {g : Int32} (h : 0 ≤ g) (i : Nat) : 8 * g + nI i = nI (8 * tn g + i) := by
  have e : (8 : Int32) = nI 8 := rfl
  have e2 : g = nI (tn g) := (tn_of h).symm
  rw [← nI_add, ← pk_mul, ← e, ← e2]
theorem lt8t {x : Int32} (h0 : 0 ≤ x) (h1 : x ≤ 8) (h2 : ¬ x = 8) : tn x < 8 := by
  have a1 := t_le.mp h0
  have a2 := t_le.mp h1
  have e8 : (8 : Int32).toInt = 8 := rfl
  rw [t_0] at a1
  rw [e8] at a2
  have : ¬ x.toInt = (8 : Int32).toInt := fun q => h2 (Int32.toInt_inj.mp q)
  rw [e8] at this
  rw [t_tn]
  omega
def pX7_gait (as : List Value) (σ : xS) : Prop := ∃ (s : Int32) (n : Int32) (a : Int32), as = [.ref 0, .int s, .int n, .int a] ∧ ((0 ≤ σ.1 0 0) ∧ (σ.1 0 0 ≤ 8))
def fX7_gait (as : List Value) (σ : xS) : Option Value × xS := match as with
  | [.ref 0, .int s, .int n, .int a] => (some (.int (gaiM σ s n a).1), (gaiM σ s n a).2)
  | _ => (none, σ)
theorem pX7_gait_e {s : Int32} {n : Int32} {a : Int32} {σ : xS} : pX7_gait [.ref 0, .int s, .int n, .int a] σ = ((0 ≤ σ.1 0 0) ∧ (σ.1 0 0 ≤ 8)) := propext ⟨fun h => by obtain ⟨s, n, a, e, h⟩ := h; cases e; exact h, fun h => ⟨s, n, a, rfl, h⟩⟩
theorem fX7_gait_e {s : Int32} {n : Int32} {a : Int32} {σ : xS} : fX7_gait [.ref 0, .int s, .int n, .int a] σ = (some (.int (gaiM σ s n a).1), (gaiM σ s n a).2) := rfl
def calX7_gait : List (Nat × xCall) := [(153, (false, 4, pX7_bars, fX7_bars)), (136, (false, 2, pX7_no, fX7_no)), (157, (false, 3, pX7_intAt, fX7_intAt))]
theorem c_X7_gait_153 : xlk calX7_gait 153 = some (false, 4, pX7_bars, fX7_bars) := rfl
theorem c_X7_gait_136 : xlk calX7_gait 136 = some (false, 2, pX7_no, fX7_no) := rfl
theorem c_X7_gait_157 : xlk calX7_gait 157 = some (false, 3, pX7_intAt, fX7_intAt) := rfl
set_option maxHeartbeats 4000000 in
set_option maxRecDepth 100000 in
theorem mX7_gait : xMet WM yX7_gait cX7_gait 6 (some .int) 4 pX7_gait fX7_gait := by
  refine xMet_of (fld := xlk fldX7) (cal := xlk calX7_gait) (ks := xlk []) (gs := xlk []) (ro := fun _ => none) 0 (by decide) WM_nd rfl fldX7_ok xKs_nil xGs_nil (Or.inr rfl) (xcal_cons (xCk_V mX7_bars 7 (by decide) (by decide) (by decide) rfl (fun as σ h _ => rX7_bars as σ h) w_X7_153 ⟨by decide, by decide, by decide +kernel⟩) (xcal_cons (xCk_V mX7_no 7 (by decide) (by decide) (by decide) rfl (fun as σ h _ => rX7_no as σ h) w_X7_136 ⟨by decide, by decide, by decide +kernel⟩) (xcal_cons (xCk_V mX7_intAt 7 (by decide) (by decide) (by decide) rfl (fun as σ h _ => rX7_intAt as σ h) w_X7_157 ⟨by decide, by decide, by decide +kernel⟩) xcal_nil))) ?_ ?_
  · rintro av σ ⟨s, n, a, rfl, hpre⟩
    exact Nat.le_of_ble_eq_true rfl
  rintro av σ ⟨s, n, a, rfl, ⟨hp1, hp2⟩⟩ Rt hR
  have hR2 := hR2_g (Rt := Rt) (F := gaiM σ s n a) (fun r s' => by rw [hR, fX7_gait_e])
  clear hR
  have hnb : nbP (brM σ s n 1) = True := nbP_br
  have h51 : (brM σ s n 1 = 0 ∧ ¬ (n < 1 ∨ 8 < n ∨ a < 0 ∨ 2 < a)) → xGo WM 6 (xlk fldX7) (xlk calX7_gait) (xlk []) (xlk []) (fun _ => none) 0 cX7_gait Rt 51 [some (.ref 0), some (.int s), some (.int n), some (.int a), none, some (.int (nI 0))] [] σ := fun hg => by
    obtain ⟨hb, hc⟩ := hg
    have g0 : gaiM σ s n a = if xany (gtB σ s) (tn n) = true then noM σ (-6) else if σ.1 0 0 = 8 then noM σ (-7) else (σ.1 0 0, gtF σ s n a) := by rw [gaiM, if_neg (fun q => q hb), if_neg hc]
    rw [g0] at hR2
    clear g0
    have hs := (wt_s (br_s hb)).1
    have hs8 := tn8 hs
    have hn8 : tn n ≤ 8 := xwk8 (Int32.not_lt.mp (fun q => hc (Or.inr (Or.inl q))))
    have iN := ixn hs
    clear hb hc hs hnb
    have h110 : (xany (gtB σ s) (tn n) = false ∧ ¬ σ.1 0 0 = 8) → xGo WM 6 (xlk fldX7) (xlk calX7_gait) (xlk []) (xlk []) (fun _ => none) 0 cX7_gait Rt 110 [some (.ref 0), some (.int s), some (.int n), some (.int a), none, some (.int (nI 0))] [] (gtS σ s 0) := fun hg => by
      obtain ⟨h1, h2⟩ := hg
      rw [h1] at hR2
      have g0 : (if (false : Bool) = true then noM σ (-6) else if σ.1 0 0 = 8 then noM σ (-7) else (σ.1 0 0, gtF σ s n a)) = (σ.1 0 0, gtF σ s n a) := by rw [if_neg (by decide), if_neg h2]
      rw [g0] at hR2
      clear g0
      have hg8 := lt8t hp1 hp2 h2
      have iG := ixg hp1
      have h2 : ∀ i, i ≤ tn n → xGo WM 6 (xlk fldX7) (xlk calX7_gait) (xlk []) (xlk []) (fun _ => none) 0 cX7_gait Rt 110 [some (.ref 0), some (.int s), some (.int n), some (.int a), none, some (.int (nI i))] [] (gtS σ s i) := by
        refine xcount (tn n) (fun i => xGo WM 6 (xlk fldX7) (xlk calX7_gait) (xlk []) (xlk []) (fun _ => none) 0 cX7_gait Rt 110 [some (.ref 0), some (.int s), some (.int n), some (.int a), none, some (.int (nI i))] [] (gtS σ s i)) (fun i hi ih => ?_)
        have hc := le_nI_tn (i := i) (x := n) hi
        have e1 : nI i + 1 = nI (i + 1) := nI_1 i
        have q0 : 0 ≤ nI (160 * tn s + i) := nI_pos' (by omega)
        have q1 : tn (nI (160 * tn s + i)) = 160 * tn s + i := tn_nI (by omega)
        have q2 : 160 * tn s + i < 1280 := by omega
        have q3 : 0 ≤ nI (8 * tn (σ.1 0 0) + i) := nI_pos' (by omega)
        have q4 : tn (nI (8 * tn (σ.1 0 0) + i)) = 8 * tn (σ.1 0 0) + i := tn_nI (by omega)
        have q5 : i < 160 := by omega
        refine xtoCs [(110, xPc (i < tn n) [some (.ref 0), some (.int s), some (.int n), some (.int a), none, some (.int (nI (i + 1)))] (gtS σ s (i + 1)))] (xcs_cons (ih) xcs_nil) 40 (fun cf hcf => ?_)
        have k110 : cf 110 = some (xPc (i < tn n) [some (.ref 0), some (.int s), some (.int n), some (.int a), none, some (.int (nI (i + 1)))] (gtS σ s (i + 1))) := (hcf 110).trans rfl
        have kn : ∀ pc, ¬ pc = 110 → cf pc = none := fun pc h0 => by rw [hcf, xlk_c, if_neg h0, xlk_n]
        clear hcf
        simp (config := {maxSteps := 4000000, implicitDefEqProofs := false}) only [xwp_2, xwp_0, xwp_1, xws_s, xdd_o, xld_0, xld_s, xs1_0, xs1_1, xs1_s, xs2_0, xs2_1, xs2_s, xlg_n, xlg_i, xlg_r, xlg_z, xlg_l, xf4_0, xf4_1, xf4_2, xf4_3, xgo_e, xcmp_eq, xcmp_ne, xcmp_lt, xcmp_ge, xcmp_gt, xcmp_le, xfg_0, xfg_1, xfg_2, xfg_3, xfg_4, xpop_0, xpop_s, xsw_n, xsw_c, xtb_n, xtb_c, xenp_n, xenp_i, xenp_r, xenp_z, xenp_l, xrep_0, xrep_s, Nat.reduceSub, true_and, and_true, cat_i, cat_r, Nat.reduceAdd, Nat.reduceLT, Nat.reduceLeDiff, Nat.reduceEqDiff, xnc, Int.reduceAdd, Int.reduceSub, Int.reduceNeg, Int.reduceLE, Int.reduceLT, Int.reduceToNat, ↓reduceIte, List.length_cons, List.length_nil, xlc0, xlc1, ite_10, i10, i01, i0_2, i0_3, i0_4, i0_6, i0_7, i0_8, i0_49, i0_10, or_true, true_or, or_false, false_or, not_false_eq_true, not_true_eq_false, xnt, xI_g, eq_self, xI_2, xJ_1, false_and, and_false, obM_t, rMi, vp_tn, tn_def, lgc, nI8, nI6, nI160, nI20, nI401, nI49, aM_6, aM_7, aM_8, aM_9, aM_10, aM_11, aM_12, aM_13, aM_14, aM_15, aM_16, aM_17, aM_18, aM_19, aM_20, aM_21, aM_22, aM_23, aM_24, aM_25, aM_26, aM_27, aM_28, aM_29, aM_30, aM_31, aM_38, aM_39, aM_40, aM_41, aM_42, aM_43, aM_44, aM_45, aM_46, aM_47, lM_6, lM_7, lM_8, lM_9, lM_10, lM_11, lM_12, lM_13, lM_14, lM_15, lM_16, lM_17, lM_18, lM_19, lM_20, lM_21, lM_22, lM_23, lM_24, lM_25, lM_26, lM_27, lM_28, lM_29, lM_30, lM_31, lM_38, lM_39, lM_40, lM_41, lM_42, lM_43, lM_44, lM_45, lM_46, lM_47, dX7_gait_0, st_aload_n, dX7_gait_1, st_iload_n, dX7_gait_2, dX7_gait_3, st_iconst, dX7_gait_4, st_invokevirtual, dX7_gait_7, st_istore, dX7_gait_9, st_iload, dX7_gait_11, st_ifCond, dX7_gait_14, dX7_gait_15, dX7_gait_17, dX7_gait_20, st_ireturn, dX7_gait_21, dX7_gait_22, dX7_gait_23, st_if_icmp, dX7_gait_26, dX7_gait_27, st_bipush, dX7_gait_29, dX7_gait_32, dX7_gait_33, dX7_gait_36, dX7_gait_37, dX7_gait_38, dX7_gait_41, dX7_gait_42, dX7_gait_44, dX7_gait_47, dX7_gait_48, dX7_gait_49, dX7_gait_51, dX7_gait_53, dX7_gait_54, dX7_gait_57, dX7_gait_58, dX7_gait_59, dX7_gait_61, dX7_gait_64, dX7_gait_67, dX7_gait_68, dX7_gait_69, dX7_gait_71, dX7_gait_74, dX7_gait_75, dX7_gait_78, dX7_gait_79, dX7_gait_81, dX7_gait_84, dX7_gait_85, st_iinc, dX7_gait_88, st_goto, dX7_gait_91, dX7_gait_92, st_getfield, fl_X7_129, dX7_gait_95, dX7_gait_97, dX7_gait_100, dX7_gait_101, dX7_gait_103, dX7_gait_106, dX7_gait_107, dX7_gait_108, dX7_gait_110, dX7_gait_112, dX7_gait_113, dX7_gait_116, dX7_gait_117, fl_X7_20, dX7_gait_120, dX7_gait_122, dX7_gait_123, dX7_gait_126, st_imul, dX7_gait_127, dX7_gait_129, st_iadd, dX7_gait_130, dX7_gait_131, dX7_gait_132, dX7_gait_134, dX7_gait_137, st_iastore, dX7_gait_138, dX7_gait_141, dX7_gait_144, dX7_gait_145, fl_X7_23, dX7_gait_148, dX7_gait_149, dX7_gait_152, dX7_gait_153, dX7_gait_154, dX7_gait_155, fl_X7_26, dX7_gait_158, dX7_gait_159, dX7_gait_162, dX7_gait_163, dX7_gait_164, dX7_gait_165, st_dup, dX7_gait_166, dX7_gait_169, st_dup_x1, dX7_gait_170, dX7_gait_171, dX7_gait_172, st_putfield, dX7_gait_175, c_X7_gait_153, pX7_bars_e, fX7_bars_e, Option.toList_some, Option.toList_none, List.cons_append, List.nil_append, c_X7_gait_136, pX7_no_e, fX7_no_e, c_X7_gait_157, pX7_intAt_e, fX7_intAt_e, ofJ_1, ofI_8, ofJ_2, ofI_m6, ofI_0, ofJ_3, ofI_m7, hp1, hp2, xwp_s, xcu_s, xcu_n, xPc_e, xsub_0, xsub_n, xsub_s, k110, kn, hc, e1, iN, iG, q0, q1, q2, q3, q4, q5, gtS_k, gtS_in, gtS_s, hp1, hg8, gtS_o]
        have fin : ¬ i < tn n → gtS σ s i = gtS σ s (tn n) := fun h => by rw [show i = tn n by omega]
        have hF : gtF σ s n a = xI (xI (xI (gtS σ s (tn n)) 8 (tn (σ.1 0 0)) n) 9 (tn (σ.1 0 0)) a) 0 0 (σ.1 0 0 + 1) := rfl
        have h9 : i < tn n → 8 * tn (σ.1 0 0) + i < 64 := fun h => by omega
        simp only [hR2]
        rw [hF]
        clear hR2 hc ih hF
        generalize gtS σ s (tn n) = Z at *
        generalize gtS σ s i = U at *
        grind (splits := 40)
      exact h2 0 (Nat.zero_le _)
    have h1 : ∀ i, i ≤ tn n → (∀ j, j < i → gtB σ s j = false) → xGo WM 6 (xlk fldX7) (xlk calX7_gait) (xlk []) (xlk []) (fun _ => none) 0 cX7_gait Rt 51 [some (.ref 0), some (.int s), some (.int n), some (.int a), none, some (.int (nI i))] [] (σ) := by
      refine xcount (tn n) (fun i => (∀ j, j < i → gtB σ s j = false) → xGo WM 6 (xlk fldX7) (xlk calX7_gait) (xlk []) (xlk []) (fun _ => none) 0 cX7_gait Rt 51 [some (.ref 0), some (.int s), some (.int n), some (.int a), none, some (.int (nI i))] [] (σ)) (fun i hi ih hH => ?_)
      have hc := le_nI_tn (i := i) (x := n) hi
      have e1 : nI i + 1 = nI (i + 1) := nI_1 i
      have q0 : 0 ≤ nI (160 * tn s + i) := nI_pos' (by omega)
      have q1 : tn (nI (160 * tn s + i)) = 160 * tn s + i := tn_nI (by omega)
      have q2 : 160 * tn s + i < 1280 := by omega
      refine xtoCs [(51, xPc (i < tn n ∧ (∀ j, j < (i + 1) → gtB σ s j = false)) [some (.ref 0), some (.int s), some (.int n), some (.int a), none, some (.int (nI (i + 1)))] (σ)), (110, xPc (xany (gtB σ s) (tn n) = false ∧ ¬ σ.1 0 0 = 8) [some (.ref 0), some (.int s), some (.int n), some (.int a), none, some (.int (nI 0))] (gtS σ s 0))] (xcs_cons (fun q => ih q.1 q.2) (xcs_cons (h110) xcs_nil)) 40 (fun cf hcf => ?_)
      have k51 : cf 51 = some (xPc (i < tn n ∧ (∀ j, j < (i + 1) → gtB σ s j = false)) [some (.ref 0), some (.int s), some (.int n), some (.int a), none, some (.int (nI (i + 1)))] (σ)) := (hcf 51).trans rfl
      have k110 : cf 110 = some (xPc (xany (gtB σ s) (tn n) = false ∧ ¬ σ.1 0 0 = 8) [some (.ref 0), some (.int s), some (.int n), some (.int a), none, some (.int (nI 0))] (gtS σ s 0)) := (hcf 110).trans rfl
      have kn : ∀ pc, ¬ pc = 51 → ¬ pc = 110 → cf pc = none := fun pc h0 h1 => by rw [hcf, xlk_c, if_neg h0, xlk_c, if_neg h1, xlk_n]
      clear hcf
      simp (config := {maxSteps := 4000000, implicitDefEqProofs := false}) only [xwp_2, xwp_0, xwp_1, xws_s, xdd_o, xld_0, xld_s, xs1_0, xs1_1, xs1_s, xs2_0, xs2_1, xs2_s, xlg_n, xlg_i, xlg_r, xlg_z, xlg_l, xf4_0, xf4_1, xf4_2, xf4_3, xgo_e, xcmp_eq, xcmp_ne, xcmp_lt, xcmp_ge, xcmp_gt, xcmp_le, xfg_0, xfg_1, xfg_2, xfg_3, xfg_4, xpop_0, xpop_s, xsw_n, xsw_c, xtb_n, xtb_c, xenp_n, xenp_i, xenp_r, xenp_z, xenp_l, xrep_0, xrep_s, Nat.reduceSub, true_and, and_true, cat_i, cat_r, Nat.reduceAdd, Nat.reduceLT, Nat.reduceLeDiff, Nat.reduceEqDiff, xnc, Int.reduceAdd, Int.reduceSub, Int.reduceNeg, Int.reduceLE, Int.reduceLT, Int.reduceToNat, ↓reduceIte, List.length_cons, List.length_nil, xlc0, xlc1, ite_10, i10, i01, i0_2, i0_3, i0_4, i0_6, i0_7, i0_8, i0_49, i0_10, or_true, true_or, or_false, false_or, not_false_eq_true, not_true_eq_false, xnt, xI_g, eq_self, xI_2, xJ_1, false_and, and_false, obM_t, rMi, vp_tn, tn_def, lgc, nI8, nI6, nI160, nI20, nI401, nI49, aM_6, aM_7, aM_8, aM_9, aM_10, aM_11, aM_12, aM_13, aM_14, aM_15, aM_16, aM_17, aM_18, aM_19, aM_20, aM_21, aM_22, aM_23, aM_24, aM_25, aM_26, aM_27, aM_28, aM_29, aM_30, aM_31, aM_38, aM_39, aM_40, aM_41, aM_42, aM_43, aM_44, aM_45, aM_46, aM_47, lM_6, lM_7, lM_8, lM_9, lM_10, lM_11, lM_12, lM_13, lM_14, lM_15, lM_16, lM_17, lM_18, lM_19, lM_20, lM_21, lM_22, lM_23, lM_24, lM_25, lM_26, lM_27, lM_28, lM_29, lM_30, lM_31, lM_38, lM_39, lM_40, lM_41, lM_42, lM_43, lM_44, lM_45, lM_46, lM_47, dX7_gait_0, st_aload_n, dX7_gait_1, st_iload_n, dX7_gait_2, dX7_gait_3, st_iconst, dX7_gait_4, st_invokevirtual, dX7_gait_7, st_istore, dX7_gait_9, st_iload, dX7_gait_11, st_ifCond, dX7_gait_14, dX7_gait_15, dX7_gait_17, dX7_gait_20, st_ireturn, dX7_gait_21, dX7_gait_22, dX7_gait_23, st_if_icmp, dX7_gait_26, dX7_gait_27, st_bipush, dX7_gait_29, dX7_gait_32, dX7_gait_33, dX7_gait_36, dX7_gait_37, dX7_gait_38, dX7_gait_41, dX7_gait_42, dX7_gait_44, dX7_gait_47, dX7_gait_48, dX7_gait_49, dX7_gait_51, dX7_gait_53, dX7_gait_54, dX7_gait_57, dX7_gait_58, dX7_gait_59, dX7_gait_61, dX7_gait_64, dX7_gait_67, dX7_gait_68, dX7_gait_69, dX7_gait_71, dX7_gait_74, dX7_gait_75, dX7_gait_78, dX7_gait_79, dX7_gait_81, dX7_gait_84, dX7_gait_85, st_iinc, dX7_gait_88, st_goto, dX7_gait_91, dX7_gait_92, st_getfield, fl_X7_129, dX7_gait_95, dX7_gait_97, dX7_gait_100, dX7_gait_101, dX7_gait_103, dX7_gait_106, dX7_gait_107, dX7_gait_108, dX7_gait_110, dX7_gait_112, dX7_gait_113, dX7_gait_116, dX7_gait_117, fl_X7_20, dX7_gait_120, dX7_gait_122, dX7_gait_123, dX7_gait_126, st_imul, dX7_gait_127, dX7_gait_129, st_iadd, dX7_gait_130, dX7_gait_131, dX7_gait_132, dX7_gait_134, dX7_gait_137, st_iastore, dX7_gait_138, dX7_gait_141, dX7_gait_144, dX7_gait_145, fl_X7_23, dX7_gait_148, dX7_gait_149, dX7_gait_152, dX7_gait_153, dX7_gait_154, dX7_gait_155, fl_X7_26, dX7_gait_158, dX7_gait_159, dX7_gait_162, dX7_gait_163, dX7_gait_164, dX7_gait_165, st_dup, dX7_gait_166, dX7_gait_169, st_dup_x1, dX7_gait_170, dX7_gait_171, dX7_gait_172, st_putfield, dX7_gait_175, c_X7_gait_153, pX7_bars_e, fX7_bars_e, Option.toList_some, Option.toList_none, List.cons_append, List.nil_append, c_X7_gait_136, pX7_no_e, fX7_no_e, c_X7_gait_157, pX7_intAt_e, fX7_intAt_e, ofJ_1, ofI_8, ofJ_2, ofI_m6, ofI_0, ofJ_3, ofI_m7, hp1, hp2, xwp_s, xcu_s, xcu_n, xPc_e, xsub_0, xsub_n, xsub_s, k51, k110, kn, hc, e1, iN, q0, q1, q2, nI_00, gtS_0, nbP_1, nbP_2, nbP_3, nbP_4, nbP_5, nbP_6, nbP_7]
      have fin : ¬ i < tn n → xany (gtB σ s) (tn n) = false := fun h => xany_f (fun j hj => hH j (by omega))
      have stop : i < tn n → gtB σ s i = true → xany (gtB σ s) (tn n) = true := fun h1 h2 => xany_t h1 h2
      have cont : gtB σ s i = false → (∀ j, j < i + 1 → gtB σ s j = false) := fun h2 => xall_s hH h2
      have e5 : gtB σ s i = decide (inM σ s (nI i) < 0 ∨ 3 < inM σ s (nI i)) := rfl
      simp only [hR2, noM]
      clear hR2 hc ih h110 iN
      generalize xany (gtB σ s) (tn n) = u at *
      generalize inM σ s (nI i) = v at *
      grind (splits := 40)
    exact h1 0 (Nat.zero_le _) (fun j hj => by omega)
  refine xtoC [(51, xPc (brM σ s n 1 = 0 ∧ ¬ (n < 1 ∨ 8 < n ∨ a < 0 ∨ 2 < a)) [some (.ref 0), some (.int s), some (.int n), some (.int a), none, some (.int (nI 0))] (σ))] (xcs_cons (h51) xcs_nil) 30 (fun cf hcf => ?_)
  have k51 : cf 51 = some (xPc (brM σ s n 1 = 0 ∧ ¬ (n < 1 ∨ 8 < n ∨ a < 0 ∨ 2 < a)) [some (.ref 0), some (.int s), some (.int n), some (.int a), none, some (.int (nI 0))] (σ)) := (hcf 51).trans rfl
  have kn : ∀ pc, ¬ pc = 51 → cf pc = none := fun pc h0 => by rw [hcf, xlk_c, if_neg h0, xlk_n]
  clear hcf
  simp (config := {maxSteps := 4000000, implicitDefEqProofs := false}) only [xwp_2, xwp_0, xwp_1, xws_s, xdd_o, xld_0, xld_s, xs1_0, xs1_1, xs1_s, xs2_0, xs2_1, xs2_s, xlg_n, xlg_i, xlg_r, xlg_z, xlg_l, xf4_0, xf4_1, xf4_2, xf4_3, xgo_e, xcmp_eq, xcmp_ne, xcmp_lt, xcmp_ge, xcmp_gt, xcmp_le, xfg_0, xfg_1, xfg_2, xfg_3, xfg_4, xpop_0, xpop_s, xsw_n, xsw_c, xtb_n, xtb_c, xenp_n, xenp_i, xenp_r, xenp_z, xenp_l, xrep_0, xrep_s, Nat.reduceSub, true_and, and_true, cat_i, cat_r, Nat.reduceAdd, Nat.reduceLT, Nat.reduceLeDiff, Nat.reduceEqDiff, xnc, Int.reduceAdd, Int.reduceSub, Int.reduceNeg, Int.reduceLE, Int.reduceLT, Int.reduceToNat, ↓reduceIte, List.length_cons, List.length_nil, xlc0, xlc1, ite_10, i10, i01, i0_2, i0_3, i0_4, i0_6, i0_7, i0_8, i0_49, i0_10, or_true, true_or, or_false, false_or, not_false_eq_true, not_true_eq_false, xnt, xI_g, eq_self, xI_2, xJ_1, false_and, and_false, obM_t, rMi, vp_tn, tn_def, lgc, nI8, nI6, nI160, nI20, nI401, nI49, aM_6, aM_7, aM_8, aM_9, aM_10, aM_11, aM_12, aM_13, aM_14, aM_15, aM_16, aM_17, aM_18, aM_19, aM_20, aM_21, aM_22, aM_23, aM_24, aM_25, aM_26, aM_27, aM_28, aM_29, aM_30, aM_31, aM_38, aM_39, aM_40, aM_41, aM_42, aM_43, aM_44, aM_45, aM_46, aM_47, lM_6, lM_7, lM_8, lM_9, lM_10, lM_11, lM_12, lM_13, lM_14, lM_15, lM_16, lM_17, lM_18, lM_19, lM_20, lM_21, lM_22, lM_23, lM_24, lM_25, lM_26, lM_27, lM_28, lM_29, lM_30, lM_31, lM_38, lM_39, lM_40, lM_41, lM_42, lM_43, lM_44, lM_45, lM_46, lM_47, dX7_gait_0, st_aload_n, dX7_gait_1, st_iload_n, dX7_gait_2, dX7_gait_3, st_iconst, dX7_gait_4, st_invokevirtual, dX7_gait_7, st_istore, dX7_gait_9, st_iload, dX7_gait_11, st_ifCond, dX7_gait_14, dX7_gait_15, dX7_gait_17, dX7_gait_20, st_ireturn, dX7_gait_21, dX7_gait_22, dX7_gait_23, st_if_icmp, dX7_gait_26, dX7_gait_27, st_bipush, dX7_gait_29, dX7_gait_32, dX7_gait_33, dX7_gait_36, dX7_gait_37, dX7_gait_38, dX7_gait_41, dX7_gait_42, dX7_gait_44, dX7_gait_47, dX7_gait_48, dX7_gait_49, dX7_gait_51, dX7_gait_53, dX7_gait_54, dX7_gait_57, dX7_gait_58, dX7_gait_59, dX7_gait_61, dX7_gait_64, dX7_gait_67, dX7_gait_68, dX7_gait_69, dX7_gait_71, dX7_gait_74, dX7_gait_75, dX7_gait_78, dX7_gait_79, dX7_gait_81, dX7_gait_84, dX7_gait_85, st_iinc, dX7_gait_88, st_goto, dX7_gait_91, dX7_gait_92, st_getfield, fl_X7_129, dX7_gait_95, dX7_gait_97, dX7_gait_100, dX7_gait_101, dX7_gait_103, dX7_gait_106, dX7_gait_107, dX7_gait_108, dX7_gait_110, dX7_gait_112, dX7_gait_113, dX7_gait_116, dX7_gait_117, fl_X7_20, dX7_gait_120, dX7_gait_122, dX7_gait_123, dX7_gait_126, st_imul, dX7_gait_127, dX7_gait_129, st_iadd, dX7_gait_130, dX7_gait_131, dX7_gait_132, dX7_gait_134, dX7_gait_137, st_iastore, dX7_gait_138, dX7_gait_141, dX7_gait_144, dX7_gait_145, fl_X7_23, dX7_gait_148, dX7_gait_149, dX7_gait_152, dX7_gait_153, dX7_gait_154, dX7_gait_155, fl_X7_26, dX7_gait_158, dX7_gait_159, dX7_gait_162, dX7_gait_163, dX7_gait_164, dX7_gait_165, st_dup, dX7_gait_166, dX7_gait_169, st_dup_x1, dX7_gait_170, dX7_gait_171, dX7_gait_172, st_putfield, dX7_gait_175, c_X7_gait_153, pX7_bars_e, fX7_bars_e, Option.toList_some, Option.toList_none, List.cons_append, List.nil_append, c_X7_gait_136, pX7_no_e, fX7_no_e, c_X7_gait_157, pX7_intAt_e, fX7_intAt_e, ofJ_1, ofI_8, ofJ_2, ofI_m6, ofI_0, ofJ_3, ofI_m7, hp1, hp2, xwp_s, xcu_s, xcu_n, xPc_e, xsub_0, xsub_n, xsub_s, k51, kn, nI_00, hnb, nbP_1, nbP_2, nbP_3, nbP_4, nbP_5, nbP_6, nbP_7]
  simp only [hR2, gaiM, noM]
  clear hR2 h51 hnb
  generalize brM σ s n 1 = u at *
  generalize xany (gtB σ s) (tn n) = u2 at *
  generalize gtF σ s n a = Z at *
  grind (splits := 40)
theorem rX7_gait : ∀ as σ, pX7_gait as σ → ∃ K as', as = .ref K :: as' ∧ xob WM K 7 := by
  rintro as σ ⟨s, n, a, rfl, hpre⟩
  exact ⟨_, _, rfl, by first | exact hpre | exact hpre.1 | exact obT hpre | exact obT hpre.1 | exact obS hpre | exact obS hpre.1 | exact obM | exact ob6 | exact ob2 | exact ob0⟩
