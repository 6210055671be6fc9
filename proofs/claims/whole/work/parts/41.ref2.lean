/-! known places, with what lives there -/
def xsub : xL → xL → Prop
  | [], [] => True
  | none :: A, _ :: B => xsub A B
  | some v :: A, some u :: B => u = v ∧ xsub A B
  | _, _ => False
theorem xsub_0 : xsub [] [] = True := rfl
theorem xsub_n {A B : xL} {a : Option Value} : xsub (none :: A) (a :: B) = xsub A B := rfl
theorem xsub_s {A B : xL} {v u : Value} : xsub (some v :: A) (some u :: B) = (u = v ∧ xsub A B) := rfl
theorem xsub_at : ∀ {A B : xL}, xsub A B → ∀ (j : Nat) (v : Value), A[j]? = some (some v) → B[j]? = some (some v)
  | [], [], _, j, v, h => by simp at h
  | none :: A, b :: B, h, 0, v, hj => by simp at hj
  | none :: A, b :: B, h, j + 1, v, hj => by
    have := xsub_at (A := A) (B := B) h j v (by simpa using hj)
    simpa using this
  | some a :: A, some b :: B, h, 0, v, hj => by
    have e : b = a := h.1
    simp at hj
    rw [e, hj]
    rfl
  | some a :: A, some b :: B, h, j + 1, v, hj => by
    have := xsub_at (A := A) (B := B) h.2 j v (by simpa using hj)
    simpa using this
  | some a :: A, none :: B, h, j, v, hj => h.elim
  | some a :: A, [], h, j, v, hj => h.elim
  | [], b :: B, h, j, v, hj => h.elim
  | none :: A, [], h, j, v, hj => h.elim
def xPc (c : Prop) (L0 : xL) (S0 : xS) : xL → List Value → xS → Prop := fun L st s => c ∧ xsub L0 L ∧ st = [] ∧ s = S0
theorem xPc_e {c : Prop} {L0 : xL} {S0 : xS} {L : xL} {st : List Value} {s : xS} : xPc c L0 S0 L st s = (c ∧ xsub L0 L ∧ st = [] ∧ s = S0) := rfl
section XCS
variable {w : xD} {nL : Nat} {fld : Nat → Option (Nat × Nat × Nat)} {cal : Nat → Option xCall} {ks : Nat → Option Value} {gs : Nat → Option Nat} {ro : Nat → Option (Nat × (Nat → Int32))} {rb : Nat} {cc : ByteArray} {Rt : Option Value → xS → Prop}
theorem xGo_up {pc : Nat} {L0 L : xL} {st : List Value} {s : xS} (h : xsub L0 L) (g : xGo w nL fld cal ks gs ro rb cc Rt pc L0 st s) : xGo w nL fld cal ks gs ro rb cc Rt pc L st s := by
  intro p l e R s' m args below meth c cells slots Q ad ca D A0 own ret d E H locs ls hP hS hL
  exact g p l e R s' m args below meth c cells slots Q ad ca D A0 own ret d E H locs ls hP hS ⟨hL.1, hL.2.1, fun j v hj => hL.2.2 j v (xsub_at h j v hj)⟩
def xcs (w : xD) (nL : Nat) (fld : Nat → Option (Nat × Nat × Nat)) (cal : Nat → Option xCall) (ks : Nat → Option Value) (gs : Nat → Option Nat) (ro : Nat → Option (Nat × (Nat → Int32))) (rb : Nat) (cc : ByteArray) (Rt : Option Value → xS → Prop) (l : List (Nat × (xL → List Value → xS → Prop))) : Prop := ∀ q, q ∈ l → ∀ L st σ, q.2 L st σ → xGo w nL fld cal ks gs ro rb cc Rt q.1 L st σ
theorem xcs_nil : xcs w nL fld cal ks gs ro rb cc Rt [] := fun q hq => absurd hq List.not_mem_nil
theorem xcs_cons {pc : Nat} {c : Prop} {L0 : xL} {S0 : xS} {l : List (Nat × (xL → List Value → xS → Prop))} (h : c → xGo w nL fld cal ks gs ro rb cc Rt pc L0 [] S0) (hr : xcs w nL fld cal ks gs ro rb cc Rt l) : xcs w nL fld cal ks gs ro rb cc Rt ((pc, xPc c L0 S0) :: l) := by
  intro q hq L st s hp
  rcases List.mem_cons.mp hq with rfl | hq
  · obtain ⟨h1, h2, rfl, rfl⟩ := hp
    exact xGo_up h2 (h h1)
  · exact hr q hq L st s hp
end XCS
theorem xcount (n : Nat) (G : Nat → Prop) (h : ∀ i, i ≤ n → (i < n → G (i + 1)) → G i) : ∀ i, i ≤ n → G i := by
  have key : ∀ k i, n - i = k → i ≤ n → G i := by
    intro k
    induction k with
    | zero => intro i hk hi; exact h i hi (fun q => by omega)
    | succ k ih => intro i hk hi; exact h i hi (fun q => ih (i + 1) (by omega) (by omega))
  exact fun i hi => key (n - i) i rfl hi
/-! a beat, as the reference does it -/
def dyP (σ : xS) (w : Nat) : Prop := (0 ≤ σ.1 15 w ∧ tn (σ.1 15 w) < 8) ∧ (0 ≤ 8 * σ.1 15 w + σ.1 16 w ∧ tn (8 * σ.1 15 w + σ.1 16 w) < 64) ∧ ¬ σ.1 8 (tn (σ.1 15 w)) = 0
def spM (σ : xS) (w : Nat) : Int32 := σ.1 7 (tn (8 * σ.1 15 w + σ.1 16 w))
def doA (σ : xS) (w : Nat) : xS := if spM σ w = 0 then (if ahM σ (σ.1 13 w) (σ.1 14 w) = -1 then xI σ 14 w (trM σ w (σ.1 9 (tn (σ.1 15 w)))) else xI σ 13 w (ahM σ (σ.1 13 w) (σ.1 14 w))) else if spM σ w < 3 then xI σ 14 w (trM σ w (spM σ w - 1)) else σ
def doM (σ : xS) (w : Nat) : xS := xI (doA σ w) 16 w (xrem (σ.1 16 w + 1) (σ.1 8 (tn (σ.1 15 w))))
theorem doA_16 {σ : xS} {w b : Nat} : (doA σ w).1 16 b = σ.1 16 b := by
  unfold doA
  split
  · split
    · rw [xI_n (by omega)]
    · rw [xI_n (by omega)]
  · split
    · rw [xI_n (by omega)]
    · rfl
def pX7_does (as : List Value) (σ : xS) : Prop := ∃ (x : Int32), as = [.ref 0, .int x] ∧ ((0 ≤ x) ∧ (tn x < 6) ∧ (dyP σ (tn x)))
def fX7_does (as : List Value) (σ : xS) : Option Value × xS := match as with
  | [.ref 0, .int x] => (none, doM σ (tn x))
  | _ => (none, σ)
theorem pX7_does_e {x : Int32} {σ : xS} : pX7_does [.ref 0, .int x] σ = ((0 ≤ x) ∧ (tn x < 6) ∧ (dyP σ (tn x))) := propext ⟨fun h => by obtain ⟨x, e, h⟩ := h; cases e; exact h, fun h => ⟨x, rfl, h⟩⟩
theorem fX7_does_e {x : Int32} {σ : xS} : fX7_does [.ref 0, .int x] σ = (none, doM σ (tn x)) := rfl
def calX7_does : List (Nat × xCall) := [(258, (false, 3, pX7_ahead, fX7_ahead)), (261, (false, 3, pX7_turns, fX7_turns))]
theorem c_X7_does_258 : xlk calX7_does 258 = some (false, 3, pX7_ahead, fX7_ahead) := rfl
theorem c_X7_does_261 : xlk calX7_does 261 = some (false, 3, pX7_turns, fX7_turns) := rfl
set_option maxHeartbeats 4000000 in
set_option maxRecDepth 100000 in
theorem mX7_does : xMet WM yX7_does cX7_does 5 none 2 pX7_does fX7_does := by
  refine xMet_of (fld := xlk fldX7) (cal := xlk calX7_does) (ks := xlk []) (gs := xlk []) (ro := fun _ => none) 4 (by decide) WM_nd rfl fldX7_ok xKs_nil xGs_nil (Or.inr rfl) (xcal_cons (xCk_V mX7_ahead 7 (by decide) (by decide) (by decide) rfl (fun as σ h _ => rX7_ahead as σ h) w_X7_258 ⟨by decide, by decide, by decide +kernel⟩) (xcal_cons (xCk_V mX7_turns 7 (by decide) (by decide) (by decide) rfl (fun as σ h _ => rX7_turns as σ h) w_X7_261 ⟨by decide, by decide, by decide +kernel⟩) xcal_nil)) ?_ ?_
  · rintro av σ ⟨x, rfl, hpre⟩
    exact Nat.le_of_ble_eq_true rfl
  rintro av σ ⟨x, rfl, ⟨hp1, hp2, hp3⟩⟩ Rt hR
  obtain ⟨⟨d1, d2⟩, ⟨d3, d4⟩, d5⟩ := id hp3
  have s1 : σ.1 7 (tn (8 * σ.1 15 (tn x) + σ.1 16 (tn x))) = spM σ (tn x) := rfl
  refine xgo0 82 ?_
  simp -implicitDefEqProofs only [xwp_2, xwp_0, xwp_1, xws_s, xdd_o, xld_0, xld_s, xs1_0, xs1_1, xs1_s, xs2_0, xs2_1, xs2_s, xlg_n, xlg_i, xlg_r, xlg_z, xlg_l, xf4_0, xf4_1, xf4_2, xf4_3, xgo_e, xcmp_eq, xcmp_ne, xcmp_lt, xcmp_ge, xcmp_gt, xcmp_le, xfg_0, xfg_1, xfg_2, xfg_3, xfg_4, xpop_0, xpop_s, xsw_n, xsw_c, xtb_n, xtb_c, xenp_n, xenp_i, xenp_r, xenp_z, xenp_l, xrep_0, xrep_s, Nat.reduceSub, true_and, and_true, cat_i, cat_r, Nat.reduceAdd, Nat.reduceLT, Nat.reduceLeDiff, Nat.reduceEqDiff, xnc, Int.reduceAdd, Int.reduceSub, Int.reduceNeg, Int.reduceLE, Int.reduceLT, Int.reduceToNat, ↓reduceIte, List.length_cons, List.length_nil, xlc0, xlc1, ite_10, i10, i01, i0_2, i0_3, i0_4, i0_6, i0_7, i0_8, i0_49, i0_10, or_true, true_or, or_false, false_or, not_false_eq_true, not_true_eq_false, xnt, xI_g, eq_self, xI_2, xJ_1, false_and, and_false, obM_t, rMi, vp_tn, tn_def, lgc, nI8, nI6, nI160, nI20, nI401, nI49, aM_6, aM_7, aM_8, aM_9, aM_10, aM_11, aM_12, aM_13, aM_14, aM_15, aM_16, aM_17, aM_18, aM_19, aM_20, aM_21, aM_22, aM_23, aM_24, aM_25, aM_26, aM_27, aM_28, aM_29, aM_30, aM_31, aM_38, aM_39, aM_40, aM_41, aM_42, aM_43, aM_44, aM_45, aM_46, aM_47, lM_6, lM_7, lM_8, lM_9, lM_10, lM_11, lM_12, lM_13, lM_14, lM_15, lM_16, lM_17, lM_18, lM_19, lM_20, lM_21, lM_22, lM_23, lM_24, lM_25, lM_26, lM_27, lM_28, lM_29, lM_30, lM_31, lM_38, lM_39, lM_40, lM_41, lM_42, lM_43, lM_44, lM_45, lM_46, lM_47, dX7_does_0, st_aload_n, dX7_does_1, st_getfield, fl_X7_44, dX7_does_4, st_iload_n, dX7_does_5, st_iaload, dX7_does_6, st_istore_n, dX7_does_7, dX7_does_8, fl_X7_20, dX7_does_11, st_bipush, dX7_does_13, dX7_does_14, st_imul, dX7_does_15, dX7_does_16, fl_X7_47, dX7_does_19, dX7_does_20, dX7_does_21, st_iadd, dX7_does_22, dX7_does_23, dX7_does_24, dX7_does_25, st_ifCond, dX7_does_28, dX7_does_29, dX7_does_30, fl_X7_38, dX7_does_33, dX7_does_34, dX7_does_35, dX7_does_36, fl_X7_41, dX7_does_39, dX7_does_40, dX7_does_41, st_invokevirtual, dX7_does_44, st_istore, dX7_does_46, st_iload, dX7_does_48, st_iconst, dX7_does_49, st_if_icmp, dX7_does_52, dX7_does_53, dX7_does_56, dX7_does_57, dX7_does_58, dX7_does_59, dX7_does_60, fl_X7_26, dX7_does_63, dX7_does_64, dX7_does_65, dX7_does_68, st_iastore, dX7_does_69, st_goto, dX7_does_72, dX7_does_73, dX7_does_76, dX7_does_77, dX7_does_79, dX7_does_80, dX7_does_83, dX7_does_84, dX7_does_85, dX7_does_88, dX7_does_89, dX7_does_92, dX7_does_93, dX7_does_94, dX7_does_95, dX7_does_96, dX7_does_97, st_isub, dX7_does_98, dX7_does_101, dX7_does_102, dX7_does_103, dX7_does_106, dX7_does_107, dX7_does_108, dX7_does_111, dX7_does_112, dX7_does_113, dX7_does_114, dX7_does_115, dX7_does_116, fl_X7_23, dX7_does_119, dX7_does_120, dX7_does_121, st_irem, dX7_does_122, dX7_does_123, st_return_, c_X7_does_258, pX7_ahead_e, fX7_ahead_e, Option.toList_some, Option.toList_none, List.cons_append, List.nil_append, c_X7_does_261, pX7_turns_e, fX7_turns_e, ofI_8, ofI_m1, ofJ_3, ofJ_1, hp1, hp2, hp3, d1, d2, d3, d4, d5, s1]
  have e1 : doA σ (tn x) = if spM σ (tn x) = 0 then (if ahM σ (σ.1 13 (tn x)) (σ.1 14 (tn x)) = -1 then xI σ 14 (tn x) (trM σ (tn x) (σ.1 9 (tn (σ.1 15 (tn x))))) else xI σ 13 (tn x) (ahM σ (σ.1 13 (tn x)) (σ.1 14 (tn x)))) else if spM σ (tn x) < 3 then xI σ 14 (tn x) (trM σ (tn x) (spM σ (tn x) - 1)) else σ := rfl
  simp only [hR, fX7_does_e, doM]
  clear hR s1 d1 d2 d3 d4 d5 hp3
  generalize doA σ (tn x) = A at *
  generalize spM σ (tn x) = s at *
  generalize ahM σ (σ.1 13 (tn x)) (σ.1 14 (tn x)) = h at *
  generalize trM σ (tn x) (σ.1 9 (tn (σ.1 15 (tn x)))) = t at *
  generalize trM σ (tn x) (s - 1) = t2 at *
  grind (splits := 40)
theorem rX7_does : ∀ as σ, pX7_does as σ → ∃ K as', as = .ref K :: as' ∧ xob WM K 7 := by
  rintro as σ ⟨x, rfl, hpre⟩
  exact ⟨_, _, rfl, by first | exact hpre | exact hpre.1 | exact obT hpre | exact obT hpre.1 | exact obS hpre | exact obS hpre.1 | exact obM | exact ob6 | exact ob2 | exact ob0⟩
/-- arrays copied, so far -/
def cpA (m : Nat → Nat) (n : Nat) (σ : xS) : xS := (fun a b => if b < n then σ.1 (m a) b else σ.1 a b, σ.2)
def mHS (a : Nat) : Nat := if a = 40 then 14 else if a = 41 then 15 else if a = 42 then 16 else if a = 43 then 17 else a
def mBG (a : Nat) : Nat := if a = 18 then 13 else if a = 19 then 14 else if a = 20 then 15 else if a = 21 then 16 else if a = 22 then 17 else a
def mBA (a : Nat) : Nat := if a = 13 then 18 else if a = 14 then 19 else if a = 15 then 20 else if a = 16 then 21 else if a = 17 then 22 else a
theorem cpA_0 {m : Nat → Nat} {σ : xS} : cpA m 0 σ = σ := by
  refine xS_e (fun a b => ?_) (fun a b => rfl)
  show (if b < 0 then σ.1 (m a) b else σ.1 a b) = _
  rw [if_neg (by omega)]
theorem cpA_e {m : Nat → Nat} {n : Nat} {σ : xS} {a b : Nat} (h : m a = a) : (cpA m n σ).1 a b = σ.1 a b := by
  show (if b < n then σ.1 (m a) b else σ.1 a b) = _
  rw [h]
  split <;> rfl
theorem cpA_g {m : Nat → Nat} {n : Nat} {σ : xS} {a b : Nat} (h : n ≤ b) : (cpA m n σ).1 a b = σ.1 a b := by
  show (if b < n then σ.1 (m a) b else σ.1 a b) = _
  rw [if_neg (by omega)]
theorem hsM_s {σ : xS} {i : Nat} : xI (xI (xI (xI (cpA mHS i σ) 40 i (σ.1 14 i)) 41 i (σ.1 15 i)) 42 i (σ.1 16 i)) 43 i (σ.1 17 i) = cpA mHS (i + 1) σ := by
  refine xS_e (fun a b => ?_) (fun a b => rfl)
  simp only [xI_g, cpA, mHS]
  by_cases hb : b = i
  · subst hb
    simp only [and_true, Nat.lt_irrefl, if_false, Nat.lt_succ_self, if_true]
    by_cases h1 : a = 43
    · simp [h1]
    by_cases h2 : a = 42
    · simp [h2]
    by_cases h3 : a = 41
    · simp [h3]
    by_cases h4 : a = 40
    · simp [h4]
    simp [h1, h2, h3, h4]
  · simp only [hb, and_false, if_false]
    by_cases h : b < i
    · have h' : b < i + 1 := by omega
      simp only [h, h', if_true]
    · have h' : ¬ b < i + 1 := by omega
      simp only [h, h', if_false]
theorem bgM_s {σ : xS} {i : Nat} : xI (xI (xI (xI (xI (cpA mBG i σ) 18 i (σ.1 13 i)) 19 i (σ.1 14 i)) 20 i (σ.1 15 i)) 21 i (σ.1 16 i)) 22 i (σ.1 17 i) = cpA mBG (i + 1) σ := by
  refine xS_e (fun a b => ?_) (fun a b => rfl)
  simp only [xI_g, cpA, mBG]
  by_cases hb : b = i
  · subst hb
    simp only [and_true, Nat.lt_irrefl, if_false, Nat.lt_succ_self, if_true]
    by_cases h1 : a = 22
    · simp [h1]
    by_cases h2 : a = 21
    · simp [h2]
    by_cases h3 : a = 20
    · simp [h3]
    by_cases h4 : a = 19
    · simp [h4]
    by_cases h5 : a = 18
    · simp [h5]
    simp [h1, h2, h3, h4, h5]
  · simp only [hb, and_false, if_false]
    by_cases h : b < i
    · have h' : b < i + 1 := by omega
      simp only [h, h', if_true]
    · have h' : ¬ b < i + 1 := by omega
      simp only [h, h', if_false]
theorem baM_s {σ : xS} {i : Nat} : xI (xI (xI (xI (xI (cpA mBA i σ) 13 i (σ.1 18 i)) 14 i (σ.1 19 i)) 15 i (σ.1 20 i)) 16 i (σ.1 21 i)) 17 i (σ.1 22 i) = cpA mBA (i + 1) σ := by
  refine xS_e (fun a b => ?_) (fun a b => rfl)
  simp only [xI_g, cpA, mBA]
  by_cases hb : b = i
  · subst hb
    simp only [and_true, Nat.lt_irrefl, if_false, Nat.lt_succ_self, if_true]
    by_cases h1 : a = 17
    · simp [h1]
    by_cases h2 : a = 16
    · simp [h2]
    by_cases h3 : a = 15
    · simp [h3]
    by_cases h4 : a = 14
    · simp [h4]
    by_cases h5 : a = 13
    · simp [h5]
    simp [h1, h2, h3, h4, h5]
  · simp only [hb, and_false, if_false]
    by_cases h : b < i
    · have h' : b < i + 1 := by omega
      simp only [h, h', if_true]
    · have h' : ¬ b < i + 1 := by omega
      simp only [h, h', if_false]
theorem hs_a {σ : xS} {n b : Nat} : (cpA mHS n σ).1 14 b = σ.1 14 b ∧ (cpA mHS n σ).1 15 b = σ.1 15 b ∧ (cpA mHS n σ).1 16 b = σ.1 16 b ∧ (cpA mHS n σ).1 17 b = σ.1 17 b ∧ (cpA mHS n σ).1 0 b = σ.1 0 b := ⟨cpA_e rfl, cpA_e rfl, cpA_e rfl, cpA_e rfl, cpA_e rfl⟩
theorem bg_a {σ : xS} {n b : Nat} : (cpA mBG n σ).1 13 b = σ.1 13 b ∧ (cpA mBG n σ).1 14 b = σ.1 14 b ∧ (cpA mBG n σ).1 15 b = σ.1 15 b ∧ (cpA mBG n σ).1 16 b = σ.1 16 b ∧ (cpA mBG n σ).1 17 b = σ.1 17 b := ⟨cpA_e rfl, cpA_e rfl, cpA_e rfl, cpA_e rfl, cpA_e rfl⟩
theorem ba_a {σ : xS} {n b : Nat} : (cpA mBA n σ).1 18 b = σ.1 18 b ∧ (cpA mBA n σ).1 19 b = σ.1 19 b ∧ (cpA mBA n σ).1 20 b = σ.1 20 b ∧ (cpA mBA n σ).1 21 b = σ.1 21 b ∧ (cpA mBA n σ).1 22 b = σ.1 22 b := ⟨cpA_e rfl, cpA_e rfl, cpA_e rfl, cpA_e rfl, cpA_e rfl⟩
def hsM (σ : xS) : xS := cpA mHS (tn (σ.1 0 1)) σ
def bgM (σ : xS) : xS := cpA mBG 6 σ
def baM (σ : xS) : xS := cpA mBA 6 σ
def pX7_holdsStill (as : List Value) (σ : xS) : Prop := as = [.ref 0] ∧ ((0 ≤ σ.1 0 1) ∧ (σ.1 0 1 ≤ 6))
def fX7_holdsStill (as : List Value) (σ : xS) : Option Value × xS := match as with
  | [.ref 0] => (none, hsM σ)
  | _ => (none, σ)
theorem pX7_holdsStill_e {σ : xS} : pX7_holdsStill [.ref 0] σ = ((0 ≤ σ.1 0 1) ∧ (σ.1 0 1 ≤ 6)) := propext ⟨fun h => h.2, fun h => ⟨rfl, h⟩⟩
theorem fX7_holdsStill_e  {σ : xS} : fX7_holdsStill [.ref 0] σ = (none, hsM σ) := rfl
def calX7_holdsStill : List (Nat × xCall) := []
set_option maxHeartbeats 4000000 in
set_option maxRecDepth 100000 in
theorem mX7_holdsStill : xMet WM yX7_holdsStill cX7_holdsStill 2 none 1 pX7_holdsStill fX7_holdsStill := by
  refine xMet_of (fld := xlk fldX7) (cal := xlk calX7_holdsStill) (ks := xlk []) (gs := xlk []) (ro := fun _ => none) 4 (by decide) WM_nd rfl fldX7_ok xKs_nil xGs_nil (Or.inr rfl) xcal_nil ?_ ?_
  · rintro av σ ⟨rfl, hpre⟩
    exact Nat.le_of_ble_eq_true rfl
  rintro av σ ⟨rfl, ⟨hp1, hp2⟩⟩ Rt hR
  have hwk := xwk6 hp2
  have hx : fX7_holdsStill [.ref 0] σ = (none, cpA mHS (tn (σ.1 0 1)) σ) := rfl
  rw [hx] at hR
  clear hx
  have a1 := fun i b => (hs_a (σ := σ) (n := i) (b := b)).1
  have a2 := fun i b => (hs_a (σ := σ) (n := i) (b := b)).2.1
  have a3 := fun i b => (hs_a (σ := σ) (n := i) (b := b)).2.2.1
  have a4 := fun i b => (hs_a (σ := σ) (n := i) (b := b)).2.2.2.1
  have a5 := fun i b => (hs_a (σ := σ) (n := i) (b := b)).2.2.2.2
  have h1 : ∀ i, i ≤ tn (σ.1 0 1) → xGo WM 2 (xlk fldX7) (xlk calX7_holdsStill) (xlk []) (xlk []) (fun _ => none) 4 cX7_holdsStill Rt 2 [some (.ref 0), some (.int (nI i))] [] (cpA mHS i σ) := by
    refine xcount (tn (σ.1 0 1)) (fun i => xGo WM 2 (xlk fldX7) (xlk calX7_holdsStill) (xlk []) (xlk []) (fun _ => none) 4 cX7_holdsStill Rt 2 [some (.ref 0), some (.int (nI i))] [] (cpA mHS i σ)) (fun i hi ih => ?_)
    have hc := le_nI_tn (i := i) (x := σ.1 0 1) hi
    have e0 : 0 ≤ nI i := nI_pos' (by omega)
    have e1 : nI i + 1 = nI (i + 1) := nI_1 i
    have e2 : tn (nI i) = i := tn_nI (by omega)
    refine xtoS [(2, xPc (i < tn (σ.1 0 1)) [some (.ref 0), some (.int (nI (i + 1)))] (cpA mHS (i + 1) σ))] (xcs_cons (ih) xcs_nil) 60 ?_
    simp -implicitDefEqProofs only [xwp_2, xwp_0, xwp_1, xws_s, xdd_o, xld_0, xld_s, xs1_0, xs1_1, xs1_s, xs2_0, xs2_1, xs2_s, xlg_n, xlg_i, xlg_r, xlg_z, xlg_l, xf4_0, xf4_1, xf4_2, xf4_3, xgo_e, xcmp_eq, xcmp_ne, xcmp_lt, xcmp_ge, xcmp_gt, xcmp_le, xfg_0, xfg_1, xfg_2, xfg_3, xfg_4, xpop_0, xpop_s, xsw_n, xsw_c, xtb_n, xtb_c, xenp_n, xenp_i, xenp_r, xenp_z, xenp_l, xrep_0, xrep_s, Nat.reduceSub, true_and, and_true, cat_i, cat_r, Nat.reduceAdd, Nat.reduceLT, Nat.reduceLeDiff, Nat.reduceEqDiff, xnc, Int.reduceAdd, Int.reduceSub, Int.reduceNeg, Int.reduceLE, Int.reduceLT, Int.reduceToNat, ↓reduceIte, List.length_cons, List.length_nil, xlc0, xlc1, ite_10, i10, i01, i0_2, i0_3, i0_4, i0_6, i0_7, i0_8, i0_49, i0_10, or_true, true_or, or_false, false_or, not_false_eq_true, not_true_eq_false, xnt, xI_g, eq_self, xI_2, xJ_1, false_and, and_false, obM_t, rMi, vp_tn, tn_def, lgc, nI8, nI6, nI160, nI20, nI401, nI49, aM_6, aM_7, aM_8, aM_9, aM_10, aM_11, aM_12, aM_13, aM_14, aM_15, aM_16, aM_17, aM_18, aM_19, aM_20, aM_21, aM_22, aM_23, aM_24, aM_25, aM_26, aM_27, aM_28, aM_29, aM_30, aM_31, aM_38, aM_39, aM_40, aM_41, aM_42, aM_43, aM_44, aM_45, aM_46, aM_47, lM_6, lM_7, lM_8, lM_9, lM_10, lM_11, lM_12, lM_13, lM_14, lM_15, lM_16, lM_17, lM_18, lM_19, lM_20, lM_21, lM_22, lM_23, lM_24, lM_25, lM_26, lM_27, lM_28, lM_29, lM_30, lM_31, lM_38, lM_39, lM_40, lM_41, lM_42, lM_43, lM_44, lM_45, lM_46, lM_47, dX7_holdsStill_0, st_iconst, dX7_holdsStill_1, st_istore_n, dX7_holdsStill_2, st_iload_n, dX7_holdsStill_3, st_aload_n, dX7_holdsStill_4, st_getfield, fl_X7_126, dX7_holdsStill_7, st_if_icmp, dX7_holdsStill_10, dX7_holdsStill_11, fl_X7_102, dX7_holdsStill_14, dX7_holdsStill_15, dX7_holdsStill_16, fl_X7_41, dX7_holdsStill_19, dX7_holdsStill_20, st_iaload, dX7_holdsStill_21, st_iastore, dX7_holdsStill_22, dX7_holdsStill_23, fl_X7_105, dX7_holdsStill_26, dX7_holdsStill_27, dX7_holdsStill_28, fl_X7_44, dX7_holdsStill_31, dX7_holdsStill_32, dX7_holdsStill_33, dX7_holdsStill_34, dX7_holdsStill_35, fl_X7_108, dX7_holdsStill_38, dX7_holdsStill_39, dX7_holdsStill_40, fl_X7_47, dX7_holdsStill_43, dX7_holdsStill_44, dX7_holdsStill_45, dX7_holdsStill_46, dX7_holdsStill_47, fl_X7_111, dX7_holdsStill_50, dX7_holdsStill_51, dX7_holdsStill_52, fl_X7_50, dX7_holdsStill_55, dX7_holdsStill_56, dX7_holdsStill_57, dX7_holdsStill_58, st_iinc, dX7_holdsStill_61, st_goto, dX7_holdsStill_64, st_return_, ofI_0, ofJ_1, hp1, hp2, xwp_L, xlk_c, xlk_n, xcu_s, xcu_n, xPc_e, xsub_0, xsub_n, xsub_s, hc, e0, e1, e2, a1, a2, a3, a4, a5, hsM_s]
    rw [hR]
    clear hR
    refine ⟨fun h => ?_, fun h => ?_⟩
    · rw [show tn (σ.1 0 1) = i by omega]
      try exact ⟨rfl, rfl⟩
    · have h6 : i < 6 := by omega
      have h7 : i < tn (σ.1 0 1) := by omega
      simp only [h6, h7, true_and, and_true, and_self]
  refine xtoN [(2, xPc (True) [some (.ref 0), some (.int (nI 0))] (cpA mHS 0 σ))] (xcs_cons (fun _ => h1 0 (Nat.zero_le _)) xcs_nil) 10 ?_
  simp -implicitDefEqProofs only [xwp_2, xwp_0, xwp_1, xws_s, xdd_o, xld_0, xld_s, xs1_0, xs1_1, xs1_s, xs2_0, xs2_1, xs2_s, xlg_n, xlg_i, xlg_r, xlg_z, xlg_l, xf4_0, xf4_1, xf4_2, xf4_3, xgo_e, xcmp_eq, xcmp_ne, xcmp_lt, xcmp_ge, xcmp_gt, xcmp_le, xfg_0, xfg_1, xfg_2, xfg_3, xfg_4, xpop_0, xpop_s, xsw_n, xsw_c, xtb_n, xtb_c, xenp_n, xenp_i, xenp_r, xenp_z, xenp_l, xrep_0, xrep_s, Nat.reduceSub, true_and, and_true, cat_i, cat_r, Nat.reduceAdd, Nat.reduceLT, Nat.reduceLeDiff, Nat.reduceEqDiff, xnc, Int.reduceAdd, Int.reduceSub, Int.reduceNeg, Int.reduceLE, Int.reduceLT, Int.reduceToNat, ↓reduceIte, List.length_cons, List.length_nil, xlc0, xlc1, ite_10, i10, i01, i0_2, i0_3, i0_4, i0_6, i0_7, i0_8, i0_49, i0_10, or_true, true_or, or_false, false_or, not_false_eq_true, not_true_eq_false, xnt, xI_g, eq_self, xI_2, xJ_1, false_and, and_false, obM_t, rMi, vp_tn, tn_def, lgc, nI8, nI6, nI160, nI20, nI401, nI49, aM_6, aM_7, aM_8, aM_9, aM_10, aM_11, aM_12, aM_13, aM_14, aM_15, aM_16, aM_17, aM_18, aM_19, aM_20, aM_21, aM_22, aM_23, aM_24, aM_25, aM_26, aM_27, aM_28, aM_29, aM_30, aM_31, aM_38, aM_39, aM_40, aM_41, aM_42, aM_43, aM_44, aM_45, aM_46, aM_47, lM_6, lM_7, lM_8, lM_9, lM_10, lM_11, lM_12, lM_13, lM_14, lM_15, lM_16, lM_17, lM_18, lM_19, lM_20, lM_21, lM_22, lM_23, lM_24, lM_25, lM_26, lM_27, lM_28, lM_29, lM_30, lM_31, lM_38, lM_39, lM_40, lM_41, lM_42, lM_43, lM_44, lM_45, lM_46, lM_47, dX7_holdsStill_0, st_iconst, dX7_holdsStill_1, st_istore_n, dX7_holdsStill_2, st_iload_n, dX7_holdsStill_3, st_aload_n, dX7_holdsStill_4, st_getfield, fl_X7_126, dX7_holdsStill_7, st_if_icmp, dX7_holdsStill_10, dX7_holdsStill_11, fl_X7_102, dX7_holdsStill_14, dX7_holdsStill_15, dX7_holdsStill_16, fl_X7_41, dX7_holdsStill_19, dX7_holdsStill_20, st_iaload, dX7_holdsStill_21, st_iastore, dX7_holdsStill_22, dX7_holdsStill_23, fl_X7_105, dX7_holdsStill_26, dX7_holdsStill_27, dX7_holdsStill_28, fl_X7_44, dX7_holdsStill_31, dX7_holdsStill_32, dX7_holdsStill_33, dX7_holdsStill_34, dX7_holdsStill_35, fl_X7_108, dX7_holdsStill_38, dX7_holdsStill_39, dX7_holdsStill_40, fl_X7_47, dX7_holdsStill_43, dX7_holdsStill_44, dX7_holdsStill_45, dX7_holdsStill_46, dX7_holdsStill_47, fl_X7_111, dX7_holdsStill_50, dX7_holdsStill_51, dX7_holdsStill_52, fl_X7_50, dX7_holdsStill_55, dX7_holdsStill_56, dX7_holdsStill_57, dX7_holdsStill_58, st_iinc, dX7_holdsStill_61, st_goto, dX7_holdsStill_64, st_return_, ofI_0, ofJ_1, hp1, hp2, xwp_L, xlk_c, xlk_n, xcu_s, xcu_n, xPc_e, xsub_0, xsub_n, xsub_s, cpA_0, nI_00]
theorem rX7_holdsStill : ∀ as σ, pX7_holdsStill as σ → ∃ K as', as = .ref K :: as' ∧ xob WM K 7 := by
  rintro as σ ⟨rfl, hpre⟩
  exact ⟨_, _, rfl, by first | exact hpre | exact hpre.1 | exact obT hpre | exact obT hpre.1 | exact obS hpre | exact obS hpre.1 | exact obM | exact ob6 | exact ob2 | exact ob0⟩
def pX7_begins (as : List Value) (σ : xS) : Prop := as = [.ref 0] ∧ (True)
def fX7_begins (as : List Value) (σ : xS) : Option Value × xS := match as with
  | [.ref 0] => (none, bgM σ)
  | _ => (none, σ)
theorem pX7_begins_e {σ : xS} : pX7_begins [.ref 0] σ = (True) := propext ⟨fun h => h.2, fun h => ⟨rfl, h⟩⟩
theorem fX7_begins_e  {σ : xS} : fX7_begins [.ref 0] σ = (none, bgM σ) := rfl
def calX7_begins : List (Nat × xCall) := []
set_option maxHeartbeats 4000000 in
set_option maxRecDepth 100000 in
theorem mX7_begins : xMet WM yX7_begins cX7_begins 2 none 1 pX7_begins fX7_begins := by
  refine xMet_of (fld := xlk fldX7) (cal := xlk calX7_begins) (ks := xlk []) (gs := xlk []) (ro := fun _ => none) 4 (by decide) WM_nd rfl fldX7_ok xKs_nil xGs_nil (Or.inr rfl) xcal_nil ?_ ?_
  · rintro av σ ⟨rfl, hpre⟩
    exact Nat.le_of_ble_eq_true rfl
  rintro av σ ⟨rfl, hp1⟩ Rt hR
  have hx : fX7_begins [.ref 0] σ = (none, cpA mBG 6 σ) := rfl
  rw [hx] at hR
  clear hx
  have a1 := fun i b => (bg_a (σ := σ) (n := i) (b := b)).1
  have a2 := fun i b => (bg_a (σ := σ) (n := i) (b := b)).2.1
  have a3 := fun i b => (bg_a (σ := σ) (n := i) (b := b)).2.2.1
  have a4 := fun i b => (bg_a (σ := σ) (n := i) (b := b)).2.2.2.1
  have a5 := fun i b => (bg_a (σ := σ) (n := i) (b := b)).2.2.2.2
  have h1 : ∀ i, i ≤ 6 → xGo WM 2 (xlk fldX7) (xlk calX7_begins) (xlk []) (xlk []) (fun _ => none) 4 cX7_begins Rt 2 [some (.ref 0), some (.int (nI i))] [] (cpA mBG i σ) := by
    refine xcount (6) (fun i => xGo WM 2 (xlk fldX7) (xlk calX7_begins) (xlk []) (xlk []) (fun _ => none) 4 cX7_begins Rt 2 [some (.ref 0), some (.int (nI i))] [] (cpA mBG i σ)) (fun i hi ih => ?_)
    have hc : (6 : Int32) ≤ nI i ↔ 6 ≤ i := nI_leI (a := 6) (by omega) (by omega)
    have e0 : 0 ≤ nI i := nI_pos' (by omega)
    have e1 : nI i + 1 = nI (i + 1) := nI_1 i
    have e2 : tn (nI i) = i := tn_nI (by omega)
    refine xtoS [(2, xPc (i < 6) [some (.ref 0), some (.int (nI (i + 1)))] (cpA mBG (i + 1) σ))] (xcs_cons (ih) xcs_nil) 60 ?_
    simp -implicitDefEqProofs only [xwp_2, xwp_0, xwp_1, xws_s, xdd_o, xld_0, xld_s, xs1_0, xs1_1, xs1_s, xs2_0, xs2_1, xs2_s, xlg_n, xlg_i, xlg_r, xlg_z, xlg_l, xf4_0, xf4_1, xf4_2, xf4_3, xgo_e, xcmp_eq, xcmp_ne, xcmp_lt, xcmp_ge, xcmp_gt, xcmp_le, xfg_0, xfg_1, xfg_2, xfg_3, xfg_4, xpop_0, xpop_s, xsw_n, xsw_c, xtb_n, xtb_c, xenp_n, xenp_i, xenp_r, xenp_z, xenp_l, xrep_0, xrep_s, Nat.reduceSub, true_and, and_true, cat_i, cat_r, Nat.reduceAdd, Nat.reduceLT, Nat.reduceLeDiff, Nat.reduceEqDiff, xnc, Int.reduceAdd, Int.reduceSub, Int.reduceNeg, Int.reduceLE, Int.reduceLT, Int.reduceToNat, ↓reduceIte, List.length_cons, List.length_nil, xlc0, xlc1, ite_10, i10, i01, i0_2, i0_3, i0_4, i0_6, i0_7, i0_8, i0_49, i0_10, or_true, true_or, or_false, false_or, not_false_eq_true, not_true_eq_false, xnt, xI_g, eq_self, xI_2, xJ_1, false_and, and_false, obM_t, rMi, vp_tn, tn_def, lgc, nI8, nI6, nI160, nI20, nI401, nI49, aM_6, aM_7, aM_8, aM_9, aM_10, aM_11, aM_12, aM_13, aM_14, aM_15, aM_16, aM_17, aM_18, aM_19, aM_20, aM_21, aM_22, aM_23, aM_24, aM_25, aM_26, aM_27, aM_28, aM_29, aM_30, aM_31, aM_38, aM_39, aM_40, aM_41, aM_42, aM_43, aM_44, aM_45, aM_46, aM_47, lM_6, lM_7, lM_8, lM_9, lM_10, lM_11, lM_12, lM_13, lM_14, lM_15, lM_16, lM_17, lM_18, lM_19, lM_20, lM_21, lM_22, lM_23, lM_24, lM_25, lM_26, lM_27, lM_28, lM_29, lM_30, lM_31, lM_38, lM_39, lM_40, lM_41, lM_42, lM_43, lM_44, lM_45, lM_46, lM_47, dX7_begins_0, st_iconst, dX7_begins_1, st_istore_n, dX7_begins_2, st_iload_n, dX7_begins_3, st_bipush, dX7_begins_5, st_if_icmp, dX7_begins_8, st_aload_n, dX7_begins_9, st_getfield, fl_X7_53, dX7_begins_12, dX7_begins_13, dX7_begins_14, fl_X7_38, dX7_begins_17, dX7_begins_18, st_iaload, dX7_begins_19, st_iastore, dX7_begins_20, dX7_begins_21, fl_X7_56, dX7_begins_24, dX7_begins_25, dX7_begins_26, fl_X7_41, dX7_begins_29, dX7_begins_30, dX7_begins_31, dX7_begins_32, dX7_begins_33, fl_X7_59, dX7_begins_36, dX7_begins_37, dX7_begins_38, fl_X7_44, dX7_begins_41, dX7_begins_42, dX7_begins_43, dX7_begins_44, dX7_begins_45, fl_X7_62, dX7_begins_48, dX7_begins_49, dX7_begins_50, fl_X7_47, dX7_begins_53, dX7_begins_54, dX7_begins_55, dX7_begins_56, dX7_begins_57, fl_X7_65, dX7_begins_60, dX7_begins_61, dX7_begins_62, fl_X7_50, dX7_begins_65, dX7_begins_66, dX7_begins_67, dX7_begins_68, st_iinc, dX7_begins_71, st_goto, dX7_begins_74, st_return_, ofI_0, ofI_6, ofJ_1, hp1, xwp_L, xlk_c, xlk_n, xcu_s, xcu_n, xPc_e, xsub_0, xsub_n, xsub_s, hc, e0, e1, e2, a1, a2, a3, a4, a5, bgM_s]
    rw [hR]
    clear hR
    refine ⟨fun h => ?_, fun h => ?_⟩
    · rw [show i = 6 by omega]
      try exact ⟨rfl, rfl⟩
    · have h6 : i < 6 := by omega
      simp only [h6, true_and, and_true, and_self]
  refine xtoN [(2, xPc (True) [some (.ref 0), some (.int (nI 0))] (cpA mBG 0 σ))] (xcs_cons (fun _ => h1 0 (Nat.zero_le _)) xcs_nil) 10 ?_
  simp -implicitDefEqProofs only [xwp_2, xwp_0, xwp_1, xws_s, xdd_o, xld_0, xld_s, xs1_0, xs1_1, xs1_s, xs2_0, xs2_1, xs2_s, xlg_n, xlg_i, xlg_r, xlg_z, xlg_l, xf4_0, xf4_1, xf4_2, xf4_3, xgo_e, xcmp_eq, xcmp_ne, xcmp_lt, xcmp_ge, xcmp_gt, xcmp_le, xfg_0, xfg_1, xfg_2, xfg_3, xfg_4, xpop_0, xpop_s, xsw_n, xsw_c, xtb_n, xtb_c, xenp_n, xenp_i, xenp_r, xenp_z, xenp_l, xrep_0, xrep_s, Nat.reduceSub, true_and, and_true, cat_i, cat_r, Nat.reduceAdd, Nat.reduceLT, Nat.reduceLeDiff, Nat.reduceEqDiff, xnc, Int.reduceAdd, Int.reduceSub, Int.reduceNeg, Int.reduceLE, Int.reduceLT, Int.reduceToNat, ↓reduceIte, List.length_cons, List.length_nil, xlc0, xlc1, ite_10, i10, i01, i0_2, i0_3, i0_4, i0_6, i0_7, i0_8, i0_49, i0_10, or_true, true_or, or_false, false_or, not_false_eq_true, not_true_eq_false, xnt, xI_g, eq_self, xI_2, xJ_1, false_and, and_false, obM_t, rMi, vp_tn, tn_def, lgc, nI8, nI6, nI160, nI20, nI401, nI49, aM_6, aM_7, aM_8, aM_9, aM_10, aM_11, aM_12, aM_13, aM_14, aM_15, aM_16, aM_17, aM_18, aM_19, aM_20, aM_21, aM_22, aM_23, aM_24, aM_25, aM_26, aM_27, aM_28, aM_29, aM_30, aM_31, aM_38, aM_39, aM_40, aM_41, aM_42, aM_43, aM_44, aM_45, aM_46, aM_47, lM_6, lM_7, lM_8, lM_9, lM_10, lM_11, lM_12, lM_13, lM_14, lM_15, lM_16, lM_17, lM_18, lM_19, lM_20, lM_21, lM_22, lM_23, lM_24, lM_25, lM_26, lM_27, lM_28, lM_29, lM_30, lM_31, lM_38, lM_39, lM_40, lM_41, lM_42, lM_43, lM_44, lM_45, lM_46, lM_47, dX7_begins_0, st_iconst, dX7_begins_1, st_istore_n, dX7_begins_2, st_iload_n, dX7_begins_3, st_bipush, dX7_begins_5, st_if_icmp, dX7_begins_8, st_aload_n, dX7_begins_9, st_getfield, fl_X7_53, dX7_begins_12, dX7_begins_13, dX7_begins_14, fl_X7_38, dX7_begins_17, dX7_begins_18, st_iaload, dX7_begins_19, st_iastore, dX7_begins_20, dX7_begins_21, fl_X7_56, dX7_begins_24, dX7_begins_25, dX7_begins_26, fl_X7_41, dX7_begins_29, dX7_begins_30, dX7_begins_31, dX7_begins_32, dX7_begins_33, fl_X7_59, dX7_begins_36, dX7_begins_37, dX7_begins_38, fl_X7_44, dX7_begins_41, dX7_begins_42, dX7_begins_43, dX7_begins_44, dX7_begins_45, fl_X7_62, dX7_begins_48, dX7_begins_49, dX7_begins_50, fl_X7_47, dX7_begins_53, dX7_begins_54, dX7_begins_55, dX7_begins_56, dX7_begins_57, fl_X7_65, dX7_begins_60, dX7_begins_61, dX7_begins_62, fl_X7_50, dX7_begins_65, dX7_begins_66, dX7_begins_67, dX7_begins_68, st_iinc, dX7_begins_71, st_goto, dX7_begins_74, st_return_, ofI_0, ofI_6, ofJ_1, hp1, xwp_L, xlk_c, xlk_n, xcu_s, xcu_n, xPc_e, xsub_0, xsub_n, xsub_s, cpA_0, nI_00]
theorem rX7_begins : ∀ as σ, pX7_begins as σ → ∃ K as', as = .ref K :: as' ∧ xob WM K 7 := by
  rintro as σ ⟨rfl, hpre⟩
  exact ⟨_, _, rfl, by first | exact hpre | exact hpre.1 | exact obT hpre | exact obT hpre.1 | exact obS hpre | exact obS hpre.1 | exact obM | exact ob6 | exact ob2 | exact ob0⟩
def pX7_backAgain (as : List Value) (σ : xS) : Prop := as = [.ref 0] ∧ (True)
def fX7_backAgain (as : List Value) (σ : xS) : Option Value × xS := match as with
  | [.ref 0] => (none, baM σ)
  | _ => (none, σ)
theorem pX7_backAgain_e {σ : xS} : pX7_backAgain [.ref 0] σ = (True) := propext ⟨fun h => h.2, fun h => ⟨rfl, h⟩⟩
theorem fX7_backAgain_e  {σ : xS} : fX7_backAgain [.ref 0] σ = (none, baM σ) := rfl
def calX7_backAgain : List (Nat × xCall) := []
set_option maxHeartbeats 4000000 in
set_option maxRecDepth 100000 in
theorem mX7_backAgain : xMet WM yX7_backAgain cX7_backAgain 2 none 1 pX7_backAgain fX7_backAgain := by
  refine xMet_of (fld := xlk fldX7) (cal := xlk calX7_backAgain) (ks := xlk []) (gs := xlk []) (ro := fun _ => none) 4 (by decide) WM_nd rfl fldX7_ok xKs_nil xGs_nil (Or.inr rfl) xcal_nil ?_ ?_
  · rintro av σ ⟨rfl, hpre⟩
    exact Nat.le_of_ble_eq_true rfl
  rintro av σ ⟨rfl, hp1⟩ Rt hR
  have hx : fX7_backAgain [.ref 0] σ = (none, cpA mBA 6 σ) := rfl
  rw [hx] at hR
  clear hx
  have a1 := fun i b => (ba_a (σ := σ) (n := i) (b := b)).1
  have a2 := fun i b => (ba_a (σ := σ) (n := i) (b := b)).2.1
  have a3 := fun i b => (ba_a (σ := σ) (n := i) (b := b)).2.2.1
  have a4 := fun i b => (ba_a (σ := σ) (n := i) (b := b)).2.2.2.1
  have a5 := fun i b => (ba_a (σ := σ) (n := i) (b := b)).2.2.2.2
  have h1 : ∀ i, i ≤ 6 → xGo WM 2 (xlk fldX7) (xlk calX7_backAgain) (xlk []) (xlk []) (fun _ => none) 4 cX7_backAgain Rt 2 [some (.ref 0), some (.int (nI i))] [] (cpA mBA i σ) := by
    refine xcount (6) (fun i => xGo WM 2 (xlk fldX7) (xlk calX7_backAgain) (xlk []) (xlk []) (fun _ => none) 4 cX7_backAgain Rt 2 [some (.ref 0), some (.int (nI i))] [] (cpA mBA i σ)) (fun i hi ih => ?_)
    have hc : (6 : Int32) ≤ nI i ↔ 6 ≤ i := nI_leI (a := 6) (by omega) (by omega)
    have e0 : 0 ≤ nI i := nI_pos' (by omega)
    have e1 : nI i + 1 = nI (i + 1) := nI_1 i
    have e2 : tn (nI i) = i := tn_nI (by omega)
    refine xtoS [(2, xPc (i < 6) [some (.ref 0), some (.int (nI (i + 1)))] (cpA mBA (i + 1) σ))] (xcs_cons (ih) xcs_nil) 60 ?_
    simp -implicitDefEqProofs only [xwp_2, xwp_0, xwp_1, xws_s, xdd_o, xld_0, xld_s, xs1_0, xs1_1, xs1_s, xs2_0, xs2_1, xs2_s, xlg_n, xlg_i, xlg_r, xlg_z, xlg_l, xf4_0, xf4_1, xf4_2, xf4_3, xgo_e, xcmp_eq, xcmp_ne, xcmp_lt, xcmp_ge, xcmp_gt, xcmp_le, xfg_0, xfg_1, xfg_2, xfg_3, xfg_4, xpop_0, xpop_s, xsw_n, xsw_c, xtb_n, xtb_c, xenp_n, xenp_i, xenp_r, xenp_z, xenp_l, xrep_0, xrep_s, Nat.reduceSub, true_and, and_true, cat_i, cat_r, Nat.reduceAdd, Nat.reduceLT, Nat.reduceLeDiff, Nat.reduceEqDiff, xnc, Int.reduceAdd, Int.reduceSub, Int.reduceNeg, Int.reduceLE, Int.reduceLT, Int.reduceToNat, ↓reduceIte, List.length_cons, List.length_nil, xlc0, xlc1, ite_10, i10, i01, i0_2, i0_3, i0_4, i0_6, i0_7, i0_8, i0_49, i0_10, or_true, true_or, or_false, false_or, not_false_eq_true, not_true_eq_false, xnt, xI_g, eq_self, xI_2, xJ_1, false_and, and_false, obM_t, rMi, vp_tn, tn_def, lgc, nI8, nI6, nI160, nI20, nI401, nI49, aM_6, aM_7, aM_8, aM_9, aM_10, aM_11, aM_12, aM_13, aM_14, aM_15, aM_16, aM_17, aM_18, aM_19, aM_20, aM_21, aM_22, aM_23, aM_24, aM_25, aM_26, aM_27, aM_28, aM_29, aM_30, aM_31, aM_38, aM_39, aM_40, aM_41, aM_42, aM_43, aM_44, aM_45, aM_46, aM_47, lM_6, lM_7, lM_8, lM_9, lM_10, lM_11, lM_12, lM_13, lM_14, lM_15, lM_16, lM_17, lM_18, lM_19, lM_20, lM_21, lM_22, lM_23, lM_24, lM_25, lM_26, lM_27, lM_28, lM_29, lM_30, lM_31, lM_38, lM_39, lM_40, lM_41, lM_42, lM_43, lM_44, lM_45, lM_46, lM_47, dX7_backAgain_0, st_iconst, dX7_backAgain_1, st_istore_n, dX7_backAgain_2, st_iload_n, dX7_backAgain_3, st_bipush, dX7_backAgain_5, st_if_icmp, dX7_backAgain_8, st_aload_n, dX7_backAgain_9, st_getfield, fl_X7_38, dX7_backAgain_12, dX7_backAgain_13, dX7_backAgain_14, fl_X7_53, dX7_backAgain_17, dX7_backAgain_18, st_iaload, dX7_backAgain_19, st_iastore, dX7_backAgain_20, dX7_backAgain_21, fl_X7_41, dX7_backAgain_24, dX7_backAgain_25, dX7_backAgain_26, fl_X7_56, dX7_backAgain_29, dX7_backAgain_30, dX7_backAgain_31, dX7_backAgain_32, dX7_backAgain_33, fl_X7_44, dX7_backAgain_36, dX7_backAgain_37, dX7_backAgain_38, fl_X7_59, dX7_backAgain_41, dX7_backAgain_42, dX7_backAgain_43, dX7_backAgain_44, dX7_backAgain_45, fl_X7_47, dX7_backAgain_48, dX7_backAgain_49, dX7_backAgain_50, fl_X7_62, dX7_backAgain_53, dX7_backAgain_54, dX7_backAgain_55, dX7_backAgain_56, dX7_backAgain_57, fl_X7_50, dX7_backAgain_60, dX7_backAgain_61, dX7_backAgain_62, fl_X7_65, dX7_backAgain_65, dX7_backAgain_66, dX7_backAgain_67, dX7_backAgain_68, st_iinc, dX7_backAgain_71, st_goto, dX7_backAgain_74, st_return_, ofI_0, ofI_6, ofJ_1, hp1, xwp_L, xlk_c, xlk_n, xcu_s, xcu_n, xPc_e, xsub_0, xsub_n, xsub_s, hc, e0, e1, e2, a1, a2, a3, a4, a5, baM_s]
    rw [hR]
    clear hR
    refine ⟨fun h => ?_, fun h => ?_⟩
    · rw [show i = 6 by omega]
      try exact ⟨rfl, rfl⟩
    · have h6 : i < 6 := by omega
      simp only [h6, true_and, and_true, and_self]
  refine xtoN [(2, xPc (True) [some (.ref 0), some (.int (nI 0))] (cpA mBA 0 σ))] (xcs_cons (fun _ => h1 0 (Nat.zero_le _)) xcs_nil) 10 ?_
  simp -implicitDefEqProofs only [xwp_2, xwp_0, xwp_1, xws_s, xdd_o, xld_0, xld_s, xs1_0, xs1_1, xs1_s, xs2_0, xs2_1, xs2_s, xlg_n, xlg_i, xlg_r, xlg_z, xlg_l, xf4_0, xf4_1, xf4_2, xf4_3, xgo_e, xcmp_eq, xcmp_ne, xcmp_lt, xcmp_ge, xcmp_gt, xcmp_le, xfg_0, xfg_1, xfg_2, xfg_3, xfg_4, xpop_0, xpop_s, xsw_n, xsw_c, xtb_n, xtb_c, xenp_n, xenp_i, xenp_r, xenp_z, xenp_l, xrep_0, xrep_s, Nat.reduceSub, true_and, and_true, cat_i, cat_r, Nat.reduceAdd, Nat.reduceLT, Nat.reduceLeDiff, Nat.reduceEqDiff, xnc, Int.reduceAdd, Int.reduceSub, Int.reduceNeg, Int.reduceLE, Int.reduceLT, Int.reduceToNat, ↓reduceIte, List.length_cons, List.length_nil, xlc0, xlc1, ite_10, i10, i01, i0_2, i0_3, i0_4, i0_6, i0_7, i0_8, i0_49, i0_10, or_true, true_or, or_false, false_or, not_false_eq_true, not_true_eq_false, xnt, xI_g, eq_self, xI_2, xJ_1, false_and, and_false, obM_t, rMi, vp_tn, tn_def, lgc, nI8, nI6, nI160, nI20, nI401, nI49, aM_6, aM_7, aM_8, aM_9, aM_10, aM_11, aM_12, aM_13, aM_14, aM_15, aM_16, aM_17, aM_18, aM_19, aM_20, aM_21, aM_22, aM_23, aM_24, aM_25, aM_26, aM_27, aM_28, aM_29, aM_30, aM_31, aM_38, aM_39, aM_40, aM_41, aM_42, aM_43, aM_44, aM_45, aM_46, aM_47, lM_6, lM_7, lM_8, lM_9, lM_10, lM_11, lM_12, lM_13, lM_14, lM_15, lM_16, lM_17, lM_18, lM_19, lM_20, lM_21, lM_22, lM_23, lM_24, lM_25, lM_26, lM_27, lM_28, lM_29, lM_30, lM_31, lM_38, lM_39, lM_40, lM_41, lM_42, lM_43, lM_44, lM_45, lM_46, lM_47, dX7_backAgain_0, st_iconst, dX7_backAgain_1, st_istore_n, dX7_backAgain_2, st_iload_n, dX7_backAgain_3, st_bipush, dX7_backAgain_5, st_if_icmp, dX7_backAgain_8, st_aload_n, dX7_backAgain_9, st_getfield, fl_X7_38, dX7_backAgain_12, dX7_backAgain_13, dX7_backAgain_14, fl_X7_53, dX7_backAgain_17, dX7_backAgain_18, st_iaload, dX7_backAgain_19, st_iastore, dX7_backAgain_20, dX7_backAgain_21, fl_X7_41, dX7_backAgain_24, dX7_backAgain_25, dX7_backAgain_26, fl_X7_56, dX7_backAgain_29, dX7_backAgain_30, dX7_backAgain_31, dX7_backAgain_32, dX7_backAgain_33, fl_X7_44, dX7_backAgain_36, dX7_backAgain_37, dX7_backAgain_38, fl_X7_59, dX7_backAgain_41, dX7_backAgain_42, dX7_backAgain_43, dX7_backAgain_44, dX7_backAgain_45, fl_X7_47, dX7_backAgain_48, dX7_backAgain_49, dX7_backAgain_50, fl_X7_62, dX7_backAgain_53, dX7_backAgain_54, dX7_backAgain_55, dX7_backAgain_56, dX7_backAgain_57, fl_X7_50, dX7_backAgain_60, dX7_backAgain_61, dX7_backAgain_62, fl_X7_65, dX7_backAgain_65, dX7_backAgain_66, dX7_backAgain_67, dX7_backAgain_68, st_iinc, dX7_backAgain_71, st_goto, dX7_backAgain_74, st_return_, ofI_0, ofI_6, ofJ_1, hp1, xwp_L, xlk_c, xlk_n, xcu_s, xcu_n, xPc_e, xsub_0, xsub_n, xsub_s, cpA_0, nI_00]
theorem rX7_backAgain : ∀ as σ, pX7_backAgain as σ → ∃ K as', as = .ref K :: as' ∧ xob WM K 7 := by
  rintro as σ ⟨rfl, hpre⟩
  exact ⟨_, _, rfl, by first | exact hpre | exact hpre.1 | exact obT hpre | exact obT hpre.1 | exact obS hpre | exact obS hpre.1 | exact obM | exact ob6 | exact ob2 | exact ob0⟩
def tkP (σ : xS) (p : Int32) (i : Nat) : Bool := decide (σ.1 13 i = p)
def itM (σ : xS) (p : Int32) : Bool := xany (tkP σ p) (tn (σ.1 0 1))
def hvP (σ : xS) (g : Int32) (i : Nat) : Bool := decide (σ.1 15 i = g)
def hvM (σ : xS) (g : Int32) : Int32 := xbits (hvP σ g) (tn (σ.1 0 1))
def akP (σ : xS) (i : Nat) : Bool := decide (¬ σ.1 15 (i + 1) = σ.1 15 0)
def akM (σ : xS) : Bool := xany (akP σ) (tn (σ.1 0 1) - 1)
def pX7_isTaken (as : List Value) (σ : xS) : Prop := ∃ (p : Int32), as = [.ref 0, .int p] ∧ ((0 ≤ σ.1 0 1) ∧ (σ.1 0 1 ≤ 6))
def fX7_isTaken (as : List Value) (σ : xS) : Option Value × xS := match as with
  | [.ref 0, .int p] => (some (.int (if itM σ p = true then 1 else 0)), σ)
  | _ => (none, σ)
theorem pX7_isTaken_e {p : Int32} {σ : xS} : pX7_isTaken [.ref 0, .int p] σ = ((0 ≤ σ.1 0 1) ∧ (σ.1 0 1 ≤ 6)) := propext ⟨fun h => by obtain ⟨p, e, h⟩ := h; cases e; exact h, fun h => ⟨p, rfl, h⟩⟩
theorem fX7_isTaken_e {p : Int32} {σ : xS} : fX7_isTaken [.ref 0, .int p] σ = (some (.int (if itM σ p = true then 1 else 0)), σ) := rfl
def calX7_isTaken : List (Nat × xCall) := []
set_option maxHeartbeats 4000000 in
set_option maxRecDepth 100000 in
theorem mX7_isTaken : xMet WM yX7_isTaken cX7_isTaken 3 (some .boolean) 1 pX7_isTaken fX7_isTaken := by
  refine xMet_of (fld := xlk fldX7) (cal := xlk calX7_isTaken) (ks := xlk []) (gs := xlk []) (ro := fun _ => none) 1 (by decide) WM_nd rfl fldX7_ok xKs_nil xGs_nil (Or.inr rfl) xcal_nil ?_ ?_
  · rintro av σ ⟨p, rfl, hpre⟩
    exact Nat.le_of_ble_eq_true rfl
  rintro av σ ⟨p, rfl, ⟨hp1, hp2⟩⟩ Rt hR
  have hwk := xwk6 hp2
  have h1 : ∀ i, i ≤ tn (σ.1 0 1) → (∀ j, j < i → tkP σ p j = false) → xGo WM 3 (xlk fldX7) (xlk calX7_isTaken) (xlk []) (xlk []) (fun _ => none) 1 cX7_isTaken Rt 2 [some (.ref 0), some (.int p), some (.int (nI i))] [] (σ) := by
    refine xcount (tn (σ.1 0 1)) (fun i => (∀ j, j < i → tkP σ p j = false) → xGo WM 3 (xlk fldX7) (xlk calX7_isTaken) (xlk []) (xlk []) (fun _ => none) 1 cX7_isTaken Rt 2 [some (.ref 0), some (.int p), some (.int (nI i))] [] (σ)) (fun i hi ih hH => ?_)
    have hc := le_nI_tn (i := i) (x := σ.1 0 1) hi
    have e0 : 0 ≤ nI i := nI_pos' (by omega)
    have e1 : nI i + 1 = nI (i + 1) := nI_1 i
    have e2 : tn (nI i) = i := tn_nI (by omega)
    refine xtoS [(2, xPc (i < tn (σ.1 0 1) ∧ (∀ j, j < (i + 1) → tkP σ p j = false)) [some (.ref 0), some (.int p), some (.int (nI (i + 1)))] (σ))] (xcs_cons (fun q => ih q.1 q.2) xcs_nil) 60 ?_
    simp -implicitDefEqProofs only [xwp_2, xwp_0, xwp_1, xws_s, xdd_o, xld_0, xld_s, xs1_0, xs1_1, xs1_s, xs2_0, xs2_1, xs2_s, xlg_n, xlg_i, xlg_r, xlg_z, xlg_l, xf4_0, xf4_1, xf4_2, xf4_3, xgo_e, xcmp_eq, xcmp_ne, xcmp_lt, xcmp_ge, xcmp_gt, xcmp_le, xfg_0, xfg_1, xfg_2, xfg_3, xfg_4, xpop_0, xpop_s, xsw_n, xsw_c, xtb_n, xtb_c, xenp_n, xenp_i, xenp_r, xenp_z, xenp_l, xrep_0, xrep_s, Nat.reduceSub, true_and, and_true, cat_i, cat_r, Nat.reduceAdd, Nat.reduceLT, Nat.reduceLeDiff, Nat.reduceEqDiff, xnc, Int.reduceAdd, Int.reduceSub, Int.reduceNeg, Int.reduceLE, Int.reduceLT, Int.reduceToNat, ↓reduceIte, List.length_cons, List.length_nil, xlc0, xlc1, ite_10, i10, i01, i0_2, i0_3, i0_4, i0_6, i0_7, i0_8, i0_49, i0_10, or_true, true_or, or_false, false_or, not_false_eq_true, not_true_eq_false, xnt, xI_g, eq_self, xI_2, xJ_1, false_and, and_false, obM_t, rMi, vp_tn, tn_def, lgc, nI8, nI6, nI160, nI20, nI401, nI49, aM_6, aM_7, aM_8, aM_9, aM_10, aM_11, aM_12, aM_13, aM_14, aM_15, aM_16, aM_17, aM_18, aM_19, aM_20, aM_21, aM_22, aM_23, aM_24, aM_25, aM_26, aM_27, aM_28, aM_29, aM_30, aM_31, aM_38, aM_39, aM_40, aM_41, aM_42, aM_43, aM_44, aM_45, aM_46, aM_47, lM_6, lM_7, lM_8, lM_9, lM_10, lM_11, lM_12, lM_13, lM_14, lM_15, lM_16, lM_17, lM_18, lM_19, lM_20, lM_21, lM_22, lM_23, lM_24, lM_25, lM_26, lM_27, lM_28, lM_29, lM_30, lM_31, lM_38, lM_39, lM_40, lM_41, lM_42, lM_43, lM_44, lM_45, lM_46, lM_47, dX7_isTaken_0, st_iconst, dX7_isTaken_1, st_istore_n, dX7_isTaken_2, st_iload_n, dX7_isTaken_3, st_aload_n, dX7_isTaken_4, st_getfield, fl_X7_126, dX7_isTaken_7, st_if_icmp, dX7_isTaken_10, dX7_isTaken_11, fl_X7_38, dX7_isTaken_14, dX7_isTaken_15, st_iaload, dX7_isTaken_16, dX7_isTaken_17, dX7_isTaken_20, dX7_isTaken_21, st_ireturn, dX7_isTaken_22, st_iinc, dX7_isTaken_25, st_goto, dX7_isTaken_28, dX7_isTaken_29, ofI_0, ofJ_1, hp1, hp2, xwp_L, xlk_c, xlk_n, xcu_s, xcu_n, xPc_e, xsub_0, xsub_n, xsub_s, hc, e0, e1, e2]
    have fin : tn (σ.1 0 1) ≤ i → itM σ p = false := fun h => xany_f (fun j hj => hH j (by omega))
    have stop : i < tn (σ.1 0 1) → tkP σ p i = true → itM σ p = true := fun h1 h2 => xany_t h1 h2
    have cont : tkP σ p i = false → (∀ j, j < i + 1 → tkP σ p j = false) := fun h2 => xall_s hH h2
    have e5 : tkP σ p i = decide (σ.1 13 i = p) := rfl
    have h6 : i < tn (σ.1 0 1) → i < 6 := fun h => by omega
    simp only [hR, fX7_isTaken_e]
    clear hR hc ih
    generalize itM σ p = u at *
    grind (splits := 40)
  refine xtoN [(2, xPc (True) [some (.ref 0), some (.int p), some (.int (nI 0))] (σ))] (xcs_cons (fun _ => h1 0 (Nat.zero_le _) (fun j hj => by omega)) xcs_nil) 10 ?_
  simp -implicitDefEqProofs only [xwp_2, xwp_0, xwp_1, xws_s, xdd_o, xld_0, xld_s, xs1_0, xs1_1, xs1_s, xs2_0, xs2_1, xs2_s, xlg_n, xlg_i, xlg_r, xlg_z, xlg_l, xf4_0, xf4_1, xf4_2, xf4_3, xgo_e, xcmp_eq, xcmp_ne, xcmp_lt, xcmp_ge, xcmp_gt, xcmp_le, xfg_0, xfg_1, xfg_2, xfg_3, xfg_4, xpop_0, xpop_s, xsw_n, xsw_c, xtb_n, xtb_c, xenp_n, xenp_i, xenp_r, xenp_z, xenp_l, xrep_0, xrep_s, Nat.reduceSub, true_and, and_true, cat_i, cat_r, Nat.reduceAdd, Nat.reduceLT, Nat.reduceLeDiff, Nat.reduceEqDiff, xnc, Int.reduceAdd, Int.reduceSub, Int.reduceNeg, Int.reduceLE, Int.reduceLT, Int.reduceToNat, ↓reduceIte, List.length_cons, List.length_nil, xlc0, xlc1, ite_10, i10, i01, i0_2, i0_3, i0_4, i0_6, i0_7, i0_8, i0_49, i0_10, or_true, true_or, or_false, false_or, not_false_eq_true, not_true_eq_false, xnt, xI_g, eq_self, xI_2, xJ_1, false_and, and_false, obM_t, rMi, vp_tn, tn_def, lgc, nI8, nI6, nI160, nI20, nI401, nI49, aM_6, aM_7, aM_8, aM_9, aM_10, aM_11, aM_12, aM_13, aM_14, aM_15, aM_16, aM_17, aM_18, aM_19, aM_20, aM_21, aM_22, aM_23, aM_24, aM_25, aM_26, aM_27, aM_28, aM_29, aM_30, aM_31, aM_38, aM_39, aM_40, aM_41, aM_42, aM_43, aM_44, aM_45, aM_46, aM_47, lM_6, lM_7, lM_8, lM_9, lM_10, lM_11, lM_12, lM_13, lM_14, lM_15, lM_16, lM_17, lM_18, lM_19, lM_20, lM_21, lM_22, lM_23, lM_24, lM_25, lM_26, lM_27, lM_28, lM_29, lM_30, lM_31, lM_38, lM_39, lM_40, lM_41, lM_42, lM_43, lM_44, lM_45, lM_46, lM_47, dX7_isTaken_0, st_iconst, dX7_isTaken_1, st_istore_n, dX7_isTaken_2, st_iload_n, dX7_isTaken_3, st_aload_n, dX7_isTaken_4, st_getfield, fl_X7_126, dX7_isTaken_7, st_if_icmp, dX7_isTaken_10, dX7_isTaken_11, fl_X7_38, dX7_isTaken_14, dX7_isTaken_15, st_iaload, dX7_isTaken_16, dX7_isTaken_17, dX7_isTaken_20, dX7_isTaken_21, st_ireturn, dX7_isTaken_22, st_iinc, dX7_isTaken_25, st_goto, dX7_isTaken_28, dX7_isTaken_29, ofI_0, ofJ_1, hp1, hp2, xwp_L, xlk_c, xlk_n, xcu_s, xcu_n, xPc_e, xsub_0, xsub_n, xsub_s, nI_00]
theorem rX7_isTaken : ∀ as σ, pX7_isTaken as σ → ∃ K as', as = .ref K :: as' ∧ xob WM K 7 := by
  rintro as σ ⟨p, rfl, hpre⟩
  exact ⟨_, _, rfl, by first | exact hpre | exact hpre.1 | exact obT hpre | exact obT hpre.1 | exact obS hpre | exact obS hpre.1 | exact obM | exact ob6 | exact ob2 | exact ob0⟩
def pX7_having (as : List Value) (σ : xS) : Prop := ∃ (g : Int32), as = [.ref 0, .int g] ∧ ((0 ≤ σ.1 0 1) ∧ (σ.1 0 1 ≤ 6))
def fX7_having (as : List Value) (σ : xS) : Option Value × xS := match as with
  | [.ref 0, .int g] => (some (.int (hvM σ g)), σ)
  | _ => (none, σ)
theorem pX7_having_e {g : Int32} {σ : xS} : pX7_having [.ref 0, .int g] σ = ((0 ≤ σ.1 0 1) ∧ (σ.1 0 1 ≤ 6)) := propext ⟨fun h => by obtain ⟨g, e, h⟩ := h; cases e; exact h, fun h => ⟨g, rfl, h⟩⟩
theorem fX7_having_e {g : Int32} {σ : xS} : fX7_having [.ref 0, .int g] σ = (some (.int (hvM σ g)), σ) := rfl
def calX7_having : List (Nat × xCall) := []
set_option maxHeartbeats 4000000 in
set_option maxRecDepth 100000 in
theorem mX7_having : xMet WM yX7_having cX7_having 4 (some .int) 1 pX7_having fX7_having := by
  refine xMet_of (fld := xlk fldX7) (cal := xlk calX7_having) (ks := xlk []) (gs := xlk []) (ro := fun _ => none) 0 (by decide) WM_nd rfl fldX7_ok xKs_nil xGs_nil (Or.inr rfl) xcal_nil ?_ ?_
  · rintro av σ ⟨g, rfl, hpre⟩
    exact Nat.le_of_ble_eq_true rfl
  rintro av σ ⟨g, rfl, ⟨hp1, hp2⟩⟩ Rt hR
  have hwk := xwk6 hp2
  have h1 : ∀ i, i ≤ tn (σ.1 0 1) → xGo WM 4 (xlk fldX7) (xlk calX7_having) (xlk []) (xlk []) (fun _ => none) 0 cX7_having Rt 4 [some (.ref 0), some (.int g), some (.int (xbits (hvP σ g) i)), some (.int (nI i))] [] (σ) := by
    refine xcount (tn (σ.1 0 1)) (fun i => xGo WM 4 (xlk fldX7) (xlk calX7_having) (xlk []) (xlk []) (fun _ => none) 0 cX7_having Rt 4 [some (.ref 0), some (.int g), some (.int (xbits (hvP σ g) i)), some (.int (nI i))] [] (σ)) (fun i hi ih => ?_)
    have hc := le_nI_tn (i := i) (x := σ.1 0 1) hi
    have e0 : 0 ≤ nI i := nI_pos' (by omega)
    have e1 : nI i + 1 = nI (i + 1) := nI_1 i
    have e2 : tn (nI i) = i := tn_nI (by omega)
    refine xtoS [(4, xPc (i < tn (σ.1 0 1)) [some (.ref 0), some (.int g), some (.int (xbits (hvP σ g) (i + 1))), some (.int (nI (i + 1)))] (σ))] (xcs_cons (ih) xcs_nil) 60 ?_
    simp -implicitDefEqProofs only [xwp_2, xwp_0, xwp_1, xws_s, xdd_o, xld_0, xld_s, xs1_0, xs1_1, xs1_s, xs2_0, xs2_1, xs2_s, xlg_n, xlg_i, xlg_r, xlg_z, xlg_l, xf4_0, xf4_1, xf4_2, xf4_3, xgo_e, xcmp_eq, xcmp_ne, xcmp_lt, xcmp_ge, xcmp_gt, xcmp_le, xfg_0, xfg_1, xfg_2, xfg_3, xfg_4, xpop_0, xpop_s, xsw_n, xsw_c, xtb_n, xtb_c, xenp_n, xenp_i, xenp_r, xenp_z, xenp_l, xrep_0, xrep_s, Nat.reduceSub, true_and, and_true, cat_i, cat_r, Nat.reduceAdd, Nat.reduceLT, Nat.reduceLeDiff, Nat.reduceEqDiff, xnc, Int.reduceAdd, Int.reduceSub, Int.reduceNeg, Int.reduceLE, Int.reduceLT, Int.reduceToNat, ↓reduceIte, List.length_cons, List.length_nil, xlc0, xlc1, ite_10, i10, i01, i0_2, i0_3, i0_4, i0_6, i0_7, i0_8, i0_49, i0_10, or_true, true_or, or_false, false_or, not_false_eq_true, not_true_eq_false, xnt, xI_g, eq_self, xI_2, xJ_1, false_and, and_false, obM_t, rMi, vp_tn, tn_def, lgc, nI8, nI6, nI160, nI20, nI401, nI49, aM_6, aM_7, aM_8, aM_9, aM_10, aM_11, aM_12, aM_13, aM_14, aM_15, aM_16, aM_17, aM_18, aM_19, aM_20, aM_21, aM_22, aM_23, aM_24, aM_25, aM_26, aM_27, aM_28, aM_29, aM_30, aM_31, aM_38, aM_39, aM_40, aM_41, aM_42, aM_43, aM_44, aM_45, aM_46, aM_47, lM_6, lM_7, lM_8, lM_9, lM_10, lM_11, lM_12, lM_13, lM_14, lM_15, lM_16, lM_17, lM_18, lM_19, lM_20, lM_21, lM_22, lM_23, lM_24, lM_25, lM_26, lM_27, lM_28, lM_29, lM_30, lM_31, lM_38, lM_39, lM_40, lM_41, lM_42, lM_43, lM_44, lM_45, lM_46, lM_47, dX7_having_0, st_iconst, dX7_having_1, st_istore_n, dX7_having_2, dX7_having_3, dX7_having_4, st_iload_n, dX7_having_5, st_aload_n, dX7_having_6, st_getfield, fl_X7_126, dX7_having_9, st_if_icmp, dX7_having_12, dX7_having_13, fl_X7_44, dX7_having_16, dX7_having_17, st_iaload, dX7_having_18, dX7_having_19, dX7_having_22, dX7_having_23, dX7_having_24, dX7_having_25, st_ishl, dX7_having_26, st_ior, dX7_having_27, dX7_having_28, st_iinc, dX7_having_31, st_goto, dX7_having_34, dX7_having_35, st_ireturn, ofI_0, ofJ_1, hp1, hp2, xwp_L, xlk_c, xlk_n, xcu_s, xcu_n, xPc_e, xsub_0, xsub_n, xsub_s, hc, e0, e1, e2]
    have fin : tn (σ.1 0 1) ≤ i → hvM σ g = xbits (hvP σ g) i := fun h => by
      rw [hvM, show tn (σ.1 0 1) = i by omega]
    have e4 : xbits (hvP σ g) (i + 1) = if hvP σ g i = true then xbits (hvP σ g) i ||| xshl 1 (nI i) else xbits (hvP σ g) i := rfl
    have e5 : hvP σ g i = decide (σ.1 15 i = g) := rfl
    have h6 : i < tn (σ.1 0 1) → i < 6 := fun h => by omega
    simp only [hR, fX7_having_e]
    rw [e4, e5]
    clear hR hc ih e4 e5
    generalize xbits (hvP σ g) i = u at *
    generalize hvM σ g = v at *
    grind (splits := 40)
  refine xtoN [(4, xPc (True) [some (.ref 0), some (.int g), some (.int (xbits (hvP σ g) 0)), some (.int (nI 0))] (σ))] (xcs_cons (fun _ => h1 0 (Nat.zero_le _)) xcs_nil) 10 ?_
  have z : xbits (hvP σ g) 0 = 0 := rfl
  simp -implicitDefEqProofs only [xwp_2, xwp_0, xwp_1, xws_s, xdd_o, xld_0, xld_s, xs1_0, xs1_1, xs1_s, xs2_0, xs2_1, xs2_s, xlg_n, xlg_i, xlg_r, xlg_z, xlg_l, xf4_0, xf4_1, xf4_2, xf4_3, xgo_e, xcmp_eq, xcmp_ne, xcmp_lt, xcmp_ge, xcmp_gt, xcmp_le, xfg_0, xfg_1, xfg_2, xfg_3, xfg_4, xpop_0, xpop_s, xsw_n, xsw_c, xtb_n, xtb_c, xenp_n, xenp_i, xenp_r, xenp_z, xenp_l, xrep_0, xrep_s, Nat.reduceSub, true_and, and_true, cat_i, cat_r, Nat.reduceAdd, Nat.reduceLT, Nat.reduceLeDiff, Nat.reduceEqDiff, xnc, Int.reduceAdd, Int.reduceSub, Int.reduceNeg, Int.reduceLE, Int.reduceLT, Int.reduceToNat, ↓reduceIte, List.length_cons, List.length_nil, xlc0, xlc1, ite_10, i10, i01, i0_2, i0_3, i0_4, i0_6, i0_7, i0_8, i0_49, i0_10, or_true, true_or, or_false, false_or, not_false_eq_true, not_true_eq_false, xnt, xI_g, eq_self, xI_2, xJ_1, false_and, and_false, obM_t, rMi, vp_tn, tn_def, lgc, nI8, nI6, nI160, nI20, nI401, nI49, aM_6, aM_7, aM_8, aM_9, aM_10, aM_11, aM_12, aM_13, aM_14, aM_15, aM_16, aM_17, aM_18, aM_19, aM_20, aM_21, aM_22, aM_23, aM_24, aM_25, aM_26, aM_27, aM_28, aM_29, aM_30, aM_31, aM_38, aM_39, aM_40, aM_41, aM_42, aM_43, aM_44, aM_45, aM_46, aM_47, lM_6, lM_7, lM_8, lM_9, lM_10, lM_11, lM_12, lM_13, lM_14, lM_15, lM_16, lM_17, lM_18, lM_19, lM_20, lM_21, lM_22, lM_23, lM_24, lM_25, lM_26, lM_27, lM_28, lM_29, lM_30, lM_31, lM_38, lM_39, lM_40, lM_41, lM_42, lM_43, lM_44, lM_45, lM_46, lM_47, dX7_having_0, st_iconst, dX7_having_1, st_istore_n, dX7_having_2, dX7_having_3, dX7_having_4, st_iload_n, dX7_having_5, st_aload_n, dX7_having_6, st_getfield, fl_X7_126, dX7_having_9, st_if_icmp, dX7_having_12, dX7_having_13, fl_X7_44, dX7_having_16, dX7_having_17, st_iaload, dX7_having_18, dX7_having_19, dX7_having_22, dX7_having_23, dX7_having_24, dX7_having_25, st_ishl, dX7_having_26, st_ior, dX7_having_27, dX7_having_28, st_iinc, dX7_having_31, st_goto, dX7_having_34, dX7_having_35, st_ireturn, ofI_0, ofJ_1, hp1, hp2, xwp_L, xlk_c, xlk_n, xcu_s, xcu_n, xPc_e, xsub_0, xsub_n, xsub_s, nI_00, z]
theorem rX7_having : ∀ as σ, pX7_having as σ → ∃ K as', as = .ref K :: as' ∧ xob WM K 7 := by
  rintro as σ ⟨g, rfl, hpre⟩
  exact ⟨_, _, rfl, by first | exact hpre | exact hpre.1 | exact obT hpre | exact obT hpre.1 | exact obS hpre | exact obS hpre.1 | exact obM | exact ob6 | exact ob2 | exact ob0⟩
