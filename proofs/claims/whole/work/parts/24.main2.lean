section XTN
variable {w : xD} {nL : Nat} {fld : Nat → Option (Nat × Nat × Nat)} {cal : Nat → Option xCall} {ks : Nat → Option Value} {gs : Nat → Option Nat} {ro : Nat → Option (Nat × (Nat → Int32))} {rb : Nat} {cc : ByteArray} {Rt : Option Value → xS → Prop}
theorem xtoN (l : List (Nat × (xL → List Value → xS → Prop))) (hl : ∀ q, q ∈ l → ∀ L st σ, q.2 L st σ → xGo w nL fld cal ks gs ro rb cc Rt q.1 L st σ) (n : Nat) {pc : Nat} {L : xL} {st : List Value} {σ : xS} (h : xwp w nL fld cal ks gs ro rb cc (xlk l) Rt n pc L st σ) : xGo w nL fld cal ks gs ro rb cc Rt pc L st σ :=
  xwp_go (cut := xlk l) (fun pc P hP L st σ hp => hl (pc, P) (xlk_mem hP) L st σ hp) n pc L st σ h
theorem xtoS (l : List (Nat × (xL → List Value → xS → Prop))) (hl : ∀ q, q ∈ l → ∀ L st σ, q.2 L st σ → xGo w nL fld cal ks gs ro rb cc Rt q.1 L st σ) (n : Nat) {pc : Nat} {L : xL} {st : List Value} {σ : xS} (h : xws w nL fld cal ks gs ro rb cc (xlk l) Rt n pc L st σ) : xGo w nL fld cal ks gs ro rb cc Rt pc L st σ :=
  xws_go (cut := xlk l) (fun pc P hP L st σ hp => hl (pc, P) (xlk_mem hP) L st σ hp) n pc L st σ h
theorem xwp_L {l : List (Nat × (xL → List Value → xS → Prop))} {n pc : Nat} {L : xL} {st : List Value} {σ : xS} : xwp w nL fld cal ks gs ro rb cc (xlk l) Rt (n + 1) pc L st σ = xcu (xlk l pc) L st σ (xdd (decode cc pc) (fun i len => xst w nL fld cal ks gs ro rb i len pc (xwp w nL fld cal ks gs ro rb cc (xlk l) Rt n) Rt L st σ)) := xwp_s
end XTN
/-- a town's look-ups, by names -/
def smX (σ : xS) (B : Nat) (p g : Int32) : Bool := xany (fun i => decide (σ.1 (B + 20 + i) 1 = p ∧ σ.1 (B + 20 + i) 3 = g)) (tn (σ.1 B 2))
theorem fX4_hasSomebodySo_n {B : Nat} {p g : Int32} {σ : xS} : fX4_hasSomebodySo [.ref B, .int p, .int g] σ = (some (.int (if smX σ B p g = true then 1 else 0)), σ) := rfl
def hvX (σ : xS) (B : Nat) (g : Int32) : Int32 := xbits (fun i => decide (σ.1 (B + 20 + i) 3 = g)) (tn (σ.1 B 2))
theorem fX4_havers_n {B : Nat} {g : Int32} {σ : xS} : fX4_havers [.ref B, .int g] σ = (some (.int (hvX σ B g)), σ) := rfl
def haX (σ : xS) (B : Nat) (g : Int32) : Bool := xany (fun i => decide (¬ σ.1 (B + 20 + i) 3 = g)) (tn (σ.1 B 2))
theorem fX4_haveAll_n {B : Nat} {g : Int32} {σ : xS} : fX4_haveAll [.ref B, .int g] σ = (some (.int (if haX σ B g = false then 1 else 0)), σ) := rfl
def fbX (σ : xS) (B : Nat) (p : Int32) : Bool := decide (¬ (xlushr (σ.2 B 0) p &&& 1 = 1) ∧ xany (fun i => decide (σ.1 (B + 20 + i) 1 = p)) (tn (σ.1 B 2)) = false)
theorem fX4_isFree_n {B : Nat} {p : Int32} {σ : xS} : fX4_isFree [.ref B, .int p] σ = (some (.int (if fbX σ B p = true then 1 else 0)), σ) := by
  rw [fX4_isFree_e, fbX]
  simp only [decide_eq_true_eq]
def brX (σ : xS) (B : Nat) (g : Int32) : Bool := xany (fun i => decide (¬ σ.1 (B + 20 + i) 3 = g ∧ ¬ (if σ.1 (B + 20 + i) 0 = 6 then σ.1 (B + 20 + i) 3 < g else σ.1 (B + 20 + i) 0 = 0 ∨ σ.1 (B + 20 + i) 0 = 3 ∨ σ.1 (B + 20 + i) 0 = 4))) (tn (σ.1 B 2))
theorem fX4_isBarred_n {B : Nat} {g : Int32} {σ : xS} : fX4_isBarred [.ref B, .int g] σ = (some (.int (if brX σ B g = true then 1 else 0)), σ) := rfl
/-- what a copy of a town holds, and what it leaves -/
theorem cpT_c {B O : Nat} {σ : xS} {b : Nat} (hb : b = 1 ∨ b = 2 ∨ b = 3 ∨ b = 4 ∨ b = 5) : (cpT B O σ).1 B b = σ.1 O b := by
  unfold cpT
  rcases hb with rfl | rfl | rfl | rfl | rfl
  · rw [xI_n (by omega), xI_n (by omega), xI_n (by omega), tkW_o (by omega), xI_n (by omega), tkG_o (by omega), xI_s]
  · rw [xI_n (by omega), xI_n (by omega), xI_n (by omega), tkW_o (by omega), xI_s]
  · rw [xI_n (by omega), xI_n (by omega), xI_s]
  · rw [xI_n (by omega), xI_s]
  · rw [xI_s]
theorem cpT_g {B O i b : Nat} {σ : xS} (hi : i < tn (σ.1 O 1)) (hg : tn (σ.1 O 1) ≤ 8) (hb : b < 3) (hap : B + 100 ≤ O ∨ O + 100 ≤ B) : (cpT B O σ).1 (B + 10 + i) b = σ.1 (O + 10 + i) b := by
  unfold cpT
  rw [xI_n (by omega), xI_n (by omega), xI_n (by omega), tkW_o (by omega), xI_n (by omega)]
  show (if B + 10 ≤ B + 10 + i ∧ B + 10 + i < B + 10 + tn (σ.1 O 1) ∧ b < 3 then (xI (xJ σ B 0 (σ.2 O 0)) B 1 (σ.1 O 1)).1 (O + 10 + (B + 10 + i - (B + 10))) b else _) = _
  rw [if_pos ⟨by omega, by omega, hb⟩, xI_n (by omega), show B + 10 + i - (B + 10) = i by omega]
  rfl
theorem cpT_w {B O i b : Nat} {σ : xS} (hi : i < tn (σ.1 O 2)) (hw : tn (σ.1 O 2) ≤ 6) (hb : b < 7) (hap : B + 100 ≤ O ∨ O + 100 ≤ B) (hg : tn (σ.1 O 1) ≤ 8) : (cpT B O σ).1 (B + 20 + i) b = σ.1 (O + 20 + i) b := by
  unfold cpT
  rw [xI_n (by omega), xI_n (by omega), xI_n (by omega)]
  show (if B + 20 ≤ B + 20 + i ∧ B + 20 + i < B + 20 + tn (σ.1 O 2) ∧ b < 7 then (xI (tkG B O (tn (σ.1 O 1)) (xI (xJ σ B 0 (σ.2 O 0)) B 1 (σ.1 O 1))) B 2 (σ.1 O 2)).1 (O + 20 + (B + 20 + i - (B + 20))) b else _) = _
  rw [if_pos ⟨by omega, by omega, hb⟩, xI_n (by omega), tkG_o (by omega), xI_n (by omega), show B + 20 + i - (B + 20) = i by omega]
  rfl
theorem gbX_f {B a b i : Nat} {σ : xS} (h : a < B + 20 ∨ B + 30 ≤ a) (hk : tn (σ.1 B 2) ≤ 6) : (gbX B i σ).1 a b = σ.1 a b := by
  induction i with
  | zero => rfl
  | succ i ih =>
    rw [gbX, beatX_o (fun j hj => ?_)]
    · exact ih
    · rw [gbX_B] at hj
      omega
/-- a thought's beginning, and so many beats on -/
def thX (σ : xS) (n : Int32) : xS := gbsX 200 n (cpT 200 100 σ)
def thV (σ : xS) (n : Int32) : Int32 := mbX 200 (tn n) (cpT 200 100 σ)
theorem cpT_k {σ : xS} : (cpT 200 100 σ).1 200 2 = σ.1 100 2 := cpT_c (by omega)
def pX6_think (as : List Value) (σ : xS) : Prop := ∃ (n : Int32), as = [.ref 0, .int n] ∧ ((0 ≤ σ.1 100 2) ∧ (σ.1 100 2 ≤ 6) ∧ (σ.1 100 1 ≤ 8))
def fX6_think (as : List Value) (σ : xS) : Option Value × xS := match as with
  | [.ref 0, .int n] => (some (.int (thV σ n)), thX σ n)
  | _ => (none, σ)
theorem pX6_think_e {n : Int32} {σ : xS} : pX6_think [.ref 0, .int n] σ = ((0 ≤ σ.1 100 2) ∧ (σ.1 100 2 ≤ 6) ∧ (σ.1 100 1 ≤ 8)) := propext ⟨fun h => by obtain ⟨n, e, h⟩ := h; cases e; exact h, fun h => ⟨n, rfl, h⟩⟩
theorem fX6_think_e {n : Int32} {σ : xS} : fX6_think [.ref 0, .int n] σ = (some (.int (thV σ n)), thX σ n) := rfl
def calX6_think : List (Nat × xCall) := [(200, (false, 2, pX4_becomeAs, fX4_becomeAs)), (233, (false, 2, pX4_goBeats, fX4_goBeats))]
theorem c_X6_think_200 : xlk calX6_think 200 = some (false, 2, pX4_becomeAs, fX4_becomeAs) := rfl
theorem c_X6_think_233 : xlk calX6_think 233 = some (false, 2, pX4_goBeats, fX4_goBeats) := rfl
set_option maxHeartbeats 4000000 in
set_option maxRecDepth 100000 in
theorem mX6_think : xMet WX yX6_think cX6_think 2 (some .int) 6 pX6_think fX6_think := by
  refine xMet_of (fld := xlk fldX6) (cal := xlk calX6_think) (ks := xlk []) (gs := xlk []) (ro := fun _ => none) 0 (by decide) WX_nd rfl fldX6_ok xKs_nil xGs_nil (Or.inr rfl) (xcal_cons (xCk_V mX4_becomeAs 4 (by decide) (by decide) (by decide) rfl (fun as σ h _ => rX4_becomeAs as σ h) w_X6_200 ⟨by decide, by decide, by decide +kernel⟩) (xcal_cons (xCk_V mX4_goBeats 4 (by decide) (by decide) (by decide) rfl (fun as σ h _ => rX4_goBeats as σ h) w_X6_233 ⟨by decide, by decide, by decide +kernel⟩) xcal_nil)) ?_ ?_
  · rintro av σ ⟨n, rfl, hpre⟩
    exact Nat.le_of_ble_eq_true rfl
  rintro av σ ⟨n, rfl, ⟨hp1, hp2, hp3⟩⟩ Rt hR
  refine xgo0 12 ?_
  simp (config := {maxSteps := 2000000}) only [xwp_2, xwp_0, xwp_1, xws_s, xdd_o, xld_0, xld_s, xs1_0, xs1_1, xs1_s, xs2_0, xs2_1, xs2_s, xlg_n, xlg_i, xlg_r, xlg_z, xlg_l, xf4_0, xf4_1, xf4_2, xf4_3, xgo_e, xcmp_eq, xcmp_ne, xcmp_lt, xcmp_ge, xcmp_gt, xcmp_le, xfg_0, xfg_1, xfg_2, xfg_3, xfg_4, xpop_0, xpop_s, xsw_n, xsw_c, xtb_n, xtb_c, xenp_n, xenp_i, xenp_r, xenp_z, xenp_l, xrep_0, xrep_s, Nat.reduceSub, true_and, and_true, cat_i, cat_r, Nat.reduceAdd, Nat.reduceLT, Nat.reduceLeDiff, Nat.reduceEqDiff, xnc, Int.reduceAdd, Int.reduceSub, Int.reduceNeg, Int.reduceLE, Int.reduceLT, Int.reduceToNat, ↓reduceIte, List.length_cons, List.length_nil, xlc0, xlc1, ite_10, i10, i01, i0_2, i0_3, i0_4, i0_6, i0_7, i0_8, i0_49, i0_10, or_true, true_or, or_false, false_or, not_false_eq_true, not_true_eq_false, xnt, xI_g, eq_self, xI_2, xJ_1, false_and, and_false, obT_t, obS_t, ob6_t, ob2_t, ob0_t, kT1_t, kT2_t, kT3_t, kT4_t, lT1, lT2, rT6, rT7, rT8, rT9, rT1i, rT2i, rS2, kSe_t, lSe, r0_0, r0_1, r0_2, r0_3, r0_4, r0_5, r0_6, r0_7, r0_8, r0_9, r1_i, r2_4, r2_5, r4_4, a1_t, a3_t, a5_t, a6_t, a7_t, a8_t, l1, l3, l5, l6, l7, l8, T1, T2, T3, T4, nI8, nI6, nI160, nI20, nI401, nI49, ob5_t, ob1_t, vp_tn, tn_def, lgc, dX6_think_0, st_aload_n, dX6_think_1, st_getfield, fl_X6_22, dX6_think_4, dX6_think_5, fl_X6_18, dX6_think_8, st_invokevirtual, dX6_think_11, dX6_think_12, dX6_think_15, st_iload_n, dX6_think_16, dX6_think_19, st_ireturn, c_X6_think_200, pX4_becomeAs_e, fX4_becomeAs_e, Option.toList_some, Option.toList_none, List.cons_append, List.nil_append, c_X6_think_233, pX4_goBeats_e, fX4_goBeats_e, cpT_k, hp1, hp2, hp3]
  simp only [hR, fX6_think_e, thX, thV]
  grind
theorem rX6_think : ∀ as σ, pX6_think as σ → ∃ K as', as = .ref K :: as' ∧ xob WX K 6 := by
  rintro as σ ⟨n, rfl, hpre⟩
  exact ⟨_, _, rfl, by first | exact hpre | exact hpre.1 | exact obT hpre | exact obT hpre.1 | exact obS hpre | exact obS hpre.1 | exact obM | exact ob6 | exact ob2 | exact ob0⟩
/-- sights: the last beat of them; how many are so -/
def snL (σ : xS) (K : Nat) : Nat → Int32
  | 0 => 0
  | i + 1 => if snL σ K i < nmA σ K (3 * nI i) then nmA σ K (3 * nI i) else snL σ K i
def snP (σ : xS) (K b i : Nat) : Bool := decide (nmA σ K (3 * nI i) = nI b) && smX (gbX 200 b σ) 200 (nmA σ K (3 * nI i + 1)) (nmA σ K (3 * nI i + 2))
def snI (P : Nat → Bool) (s0 : Int32) : Nat → Int32
  | 0 => s0
  | i + 1 => if P i = true then snI P s0 i + 1 else snI P s0 i
def snO (σ : xS) (K n : Nat) : Nat → Int32
  | 0 => 0
  | b + 1 => snI (snP σ K b) (snO σ K n b) n
theorem snI_0 {P : Nat → Bool} {s0 : Int32} : snI P s0 0 = s0 := rfl
theorem snI_s {P : Nat → Bool} {s0 : Int32} {i : Nat} : snI P s0 (i + 1) = if P i = true then snI P s0 i + 1 else snI P s0 i := rfl
theorem snO_0 {σ : xS} {K n : Nat} : snO σ K n 0 = 0 := rfl
theorem snO_s {σ : xS} {K n b : Nat} : snO σ K n (b + 1) = snI (snP σ K b) (snO σ K n b) n := rfl
theorem snL_s {σ : xS} {K i : Nat} : snL σ K (i + 1) = if snL σ K i < nmA σ K (3 * nI i) then nmA σ K (3 * nI i) else snL σ K i := rfl
theorem gbX_0 {B : Nat} {σ : xS} : gbX B 0 σ = σ := rfl
theorem gbX_s {B i : Nat} {σ : xS} : gbX B (i + 1) σ = beatX B (gbX B i σ) := rfl
theorem ofJ_2 : Int32.ofInt 2 = 2 := Eq.trans ofI_2 (Eq.refl _)
theorem ofJ_3 : Int32.ofInt 3 = 3 := Eq.trans ofI_3 (Eq.refl _)
theorem ofJ_1 : Int32.ofInt 1 = 1 := Eq.trans ofI_1 (Eq.refl _)
def snV (σ : xS) (K : Nat) (n : Int32) : Int32 := snO σ K (tn n) (tn (snL σ K (tn n)) + 1)
def snS (σ : xS) (K : Nat) (n : Int32) : xS := gbX 200 (tn (snL σ K (tn n)) + 1) σ
theorem snL_r {σ : xS} {K n : Nat} (h : ∀ i, i < n → nmA σ K (3 * nI i) ≤ 400) : ∀ i, i ≤ n → 0 ≤ snL σ K i ∧ snL σ K i ≤ 400
  | 0, _ => ⟨show (0 : Int32) ≤ 0 by decide, show (0 : Int32) ≤ 400 by decide⟩
  | i + 1, hi => by
    have ih := snL_r h i (by omega)
    have h2 := h i (by omega)
    rw [snL]
    split
    · rename_i h3
      exact ⟨Int32.le_of_lt (Int32.lt_of_le_of_lt ih.1 h3), h2⟩
    · exact ih
theorem nmA_g {σ : xS} {K b : Nat} {i : Int32} (hK : xSh K) : nmA (gbX 200 b σ) K i = nmA σ K i := by
  unfold nmA
  rw [gbX_2, gbX_o (fun j => by have := hK.2; omega)]
theorem sn400 {x : Int32} (h0 : 0 ≤ x) (h : x ≤ 400) : tn x ≤ 400 := by
  rw [t_le] at h
  have e2 : (400 : Int32).toInt = 400 := rfl
  rw [t_tn]
  omega
def snl (n : Nat) : Nat → Option Value
  | 0 => none
  | _ + 1 => some (.int (nI n))
theorem sn10 {x : Int32} (h : x ≤ 10) : tn x ≤ 10 := by
  rw [t_le] at h
  have e2 : (10 : Int32).toInt = 10 := rfl
  rw [t_tn]
  omega
def pX6_seen (as : List Value) (σ : xS) : Prop := ∃ (K : Nat) (n : Int32), as = [.ref 0, .ref K, .int n] ∧ ((xSh K) ∧ (0 ≤ n) ∧ (n ≤ 10) ∧ (∀ i, i < tn n → nmA σ K (3 * nI i) ≤ 400) ∧ (0 ≤ σ.1 200 2) ∧ (σ.1 200 2 ≤ 6))
def fX6_seen (as : List Value) (σ : xS) : Option Value × xS := match as with
  | [.ref 0, .ref K, .int n] => (some (.int (snV σ K n)), snS σ K n)
  | _ => (none, σ)
theorem pX6_seen_e {K : Nat} {n : Int32} {σ : xS} : pX6_seen [.ref 0, .ref K, .int n] σ = ((xSh K) ∧ (0 ≤ n) ∧ (n ≤ 10) ∧ (∀ i, i < tn n → nmA σ K (3 * nI i) ≤ 400) ∧ (0 ≤ σ.1 200 2) ∧ (σ.1 200 2 ≤ 6)) := propext ⟨fun h => by obtain ⟨K, n, e, h⟩ := h; cases e; exact h, fun h => ⟨K, n, rfl, h⟩⟩
theorem fX6_seen_e {K : Nat} {n : Int32} {σ : xS} : fX6_seen [.ref 0, .ref K, .int n] σ = (some (.int (snV σ K n)), snS σ K n) := rfl
def calX6_seen : List (Nat × xCall) := [(133, (false, 2, pX3_numberAt, fX3_numberAt)), (307, (true, 2, pMax, fMax)), (312, (false, 3, pX4_hasSomebodySo, fX4_hasSomebodySo)), (219, (false, 1, pX4_goBeat, fX4_goBeat))]
theorem c_X6_seen_133 : xlk calX6_seen 133 = some (false, 2, pX3_numberAt, fX3_numberAt) := rfl
theorem c_X6_seen_307 : xlk calX6_seen 307 = some (true, 2, pMax, fMax) := rfl
theorem c_X6_seen_312 : xlk calX6_seen 312 = some (false, 3, pX4_hasSomebodySo, fX4_hasSomebodySo) := rfl
theorem c_X6_seen_219 : xlk calX6_seen 219 = some (false, 1, pX4_goBeat, fX4_goBeat) := rfl
set_option maxHeartbeats 4000000 in
set_option maxRecDepth 100000 in
theorem mX6_seen : xMet WX yX6_seen cX6_seen 7 (some .int) 5 pX6_seen fX6_seen := by
  refine xMet_of (fld := xlk fldX6) (cal := xlk calX6_seen) (ks := xlk []) (gs := xlk []) (ro := fun _ => none) 0 (by decide) WX_nd rfl fldX6_ok xKs_nil xGs_nil (Or.inr rfl) (xcal_cons (xCk_V mX3_numberAt 3 (by decide) (by decide) (by decide) rfl (fun as σ h _ => rX3_numberAt as σ h) w_X6_133 ⟨by decide, by decide, by decide +kernel⟩) (xcal_cons (xCk_max (by decide) w_X6_307) (xcal_cons (xCk_V mX4_hasSomebodySo 4 (by decide) (by decide) (by decide) rfl (fun as σ h _ => rX4_hasSomebodySo as σ h) w_X6_312 ⟨by decide, by decide, by decide +kernel⟩) (xcal_cons (xCk_V mX4_goBeat 4 (by decide) (by decide) (by decide) rfl (fun as σ h _ => rX4_goBeat as σ h) w_X6_219 ⟨by decide, by decide, by decide +kernel⟩) xcal_nil)))) ?_ ?_
  · rintro av σ ⟨K, n, rfl, hpre⟩
    exact Nat.le_of_ble_eq_true rfl
  rintro av σ ⟨K, n, rfl, ⟨hp1, hp2, hp3, hp4, hp5, hp6⟩⟩ Rt hR
  have hx : fX6_seen [.ref 0, .ref K, .int n] σ = (some (.int (snO σ K (tn n) (tn (snL σ K (tn n)) + 1))), gbX 200 (tn (snL σ K (tn n)) + 1) σ) := rfl
  rw [hx] at hR
  have h10 := sn10 hp3
  have hn0 : nI (tn n) = n := tn_of hp2
  have hL := snL_r hp4 (tn n) (Nat.le_refl _)
  have h400 := sn400 hL.1 hL.2
  have hl0 : nI (tn (snL σ K (tn n))) = snL σ K (tn n) := tn_of hL.1
  generalize hl : tn (snL σ K (tn n)) = l at *
  generalize hm : tn n = m at *
  have z1 : ∀ b, (gbX 200 b σ).1 200 2 = σ.1 200 2 := fun b => gbX_B
  have z2 : ∀ b i, nmA (gbX 200 b σ) K i = nmA σ K i := fun b i => nmA_g hp1
  have outer : ∀ k b, l + 1 - b = k → b ≤ l + 1 → xGo WX 7 (xlk fldX6) (xlk calX6_seen) (xlk []) (xlk []) (fun _ => none) 0 cX6_seen Rt 36 [some (.ref 0), some (.ref K), some (.int n), some (.int (nI l)), some (.int (snO σ K m b)), some (.int (nI b)), snl m b] [] (gbX 200 b σ) := by
    intro k
    induction k with
    | zero =>
      intro b hb hb2
      have hbl : b = l + 1 := by omega
      have c1 : nI l < nI b := (nI_ltI (by omega) (by omega)).mpr (by omega)
      refine xgo0 20 ?_
      simp only [xwp_2, xwp_0, xwp_1, xws_s, xdd_o, xld_0, xld_s, xs1_0, xs1_1, xs1_s, xs2_0, xs2_1, xs2_s, xlg_n, xlg_i, xlg_r, xlg_z, xlg_l, xf4_0, xf4_1, xf4_2, xf4_3, xgo_e, xcmp_eq, xcmp_ne, xcmp_lt, xcmp_ge, xcmp_gt, xcmp_le, xfg_0, xfg_1, xfg_2, xfg_3, xfg_4, xpop_0, xpop_s, xsw_n, xsw_c, xtb_n, xtb_c, xenp_n, xenp_i, xenp_r, xenp_z, xenp_l, xrep_0, xrep_s, Nat.reduceSub, true_and, and_true, cat_i, cat_r, Nat.reduceAdd, Nat.reduceLT, Nat.reduceLeDiff, Nat.reduceEqDiff, xnc, Int.reduceAdd, Int.reduceSub, Int.reduceNeg, Int.reduceLE, Int.reduceLT, Int.reduceToNat, ↓reduceIte, List.length_cons, List.length_nil, xlc0, xlc1, ite_10, i10, i01, i0_2, i0_3, i0_4, i0_6, i0_7, i0_8, i0_49, i0_10, or_true, true_or, or_false, false_or, not_false_eq_true, not_true_eq_false, xnt, xI_g, eq_self, xI_2, xJ_1, false_and, and_false, obT_t, obS_t, ob6_t, ob2_t, ob0_t, kT1_t, kT2_t, kT3_t, kT4_t, lT1, lT2, rT6, rT7, rT8, rT9, rT1i, rT2i, rS2, kSe_t, lSe, r0_0, r0_1, r0_2, r0_3, r0_4, r0_5, r0_6, r0_7, r0_8, r0_9, r1_i, r2_4, r2_5, r4_4, a1_t, a3_t, a5_t, a6_t, a7_t, a8_t, l1, l3, l5, l6, l7, l8, T1, T2, T3, T4, nI8, nI6, nI160, nI20, nI401, nI49, ob5_t, ob1_t, vp_tn, tn_def, lgc, dX6_seen_0, st_iconst, dX6_seen_1, st_istore_n, dX6_seen_2, dX6_seen_3, st_istore, dX6_seen_5, st_iload, dX6_seen_7, st_iload_n, dX6_seen_8, st_if_icmp, dX6_seen_11, dX6_seen_12, st_aload_n, dX6_seen_13, dX6_seen_14, dX6_seen_16, st_imul, dX6_seen_17, st_invokevirtual, dX6_seen_20, st_invokestatic, dX6_seen_23, dX6_seen_24, st_iinc, dX6_seen_27, st_goto, dX6_seen_30, dX6_seen_31, dX6_seen_33, dX6_seen_34, dX6_seen_36, dX6_seen_38, dX6_seen_39, dX6_seen_42, dX6_seen_43, dX6_seen_45, dX6_seen_47, dX6_seen_48, dX6_seen_51, dX6_seen_52, dX6_seen_53, dX6_seen_55, dX6_seen_56, dX6_seen_59, dX6_seen_61, dX6_seen_64, dX6_seen_65, st_getfield, fl_X6_22, dX6_seen_68, dX6_seen_69, dX6_seen_70, dX6_seen_72, dX6_seen_73, dX6_seen_74, st_iadd, dX6_seen_75, dX6_seen_78, dX6_seen_79, dX6_seen_80, dX6_seen_82, dX6_seen_83, dX6_seen_84, dX6_seen_85, dX6_seen_88, dX6_seen_91, st_ifCond, dX6_seen_94, dX6_seen_97, dX6_seen_100, dX6_seen_103, dX6_seen_104, dX6_seen_107, dX6_seen_110, st_pop, dX6_seen_111, dX6_seen_114, dX6_seen_117, dX6_seen_119, st_ireturn, c_X6_seen_133, pX3_numberAt_e, fX3_numberAt_n, Option.toList_some, Option.toList_none, List.cons_append, List.nil_append, c_X6_seen_307, pMax_e, fMax_e, c_X6_seen_312, pX4_hasSomebodySo_e, fX4_hasSomebodySo_n, c_X6_seen_219, pX4_goBeat_e, fX4_goBeat_e, ofI_0, ofJ_3, ofJ_1, ofJ_2, hp1, hp2, hp3, hp4, hp5, hp6, c1]
      simp only [hR, hbl, true_implies, false_implies, and_true, true_and, not_true_eq_false]
    | succ k ih =>
      intro b hb hb2
      have c1 : ¬ nI l < nI b := fun q => by have := (nI_ltI (by omega) (by omega)).mp q; omega
      have e1 : nI b + 1 = nI (b + 1) := nI_1 b
      refine xto 45 (fun L st s => L = [some (.ref 0), some (.ref K), some (.int n), some (.int (nI l)), some (.int (snI (snP σ K b) (snO σ K m b) 0)), some (.int (nI b)), some (.int (nI 0))] ∧ st = [] ∧ s = gbX 200 b σ) 12 ?_ ?_
      · rintro L st s ⟨rfl, rfl, rfl⟩
        have p85 : ∀ i, i ≤ m → (i < m → xGo WX 7 (xlk fldX6) (xlk calX6_seen) (xlk []) (xlk []) (fun _ => none) 0 cX6_seen Rt 45 [some (.ref 0), some (.ref K), some (.int n), some (.int (nI l)), some (.int (snI (snP σ K b) (snO σ K m b) (i + 1))), some (.int (nI b)), some (.int (nI (i + 1)))] [] (gbX 200 b σ)) → i < m → nmA σ K (3 * nI i) = nI b → ∀ a1 a2 : Int32, nmA σ K (3 * nI i + 1) = a1 → 3 * nI i + 2 = a2 → xGo WX 7 (xlk fldX6) (xlk calX6_seen) (xlk []) (xlk []) (fun _ => none) 0 cX6_seen Rt 85 [some (.ref 0), some (.ref K), some (.int n), some (.int (nI l)), some (.int (snI (snP σ K b) (snO σ K m b) i)), some (.int (nI b)), some (.int (nI i))] [.int a2, .ref K, .int a1, .ref 200] (gbX 200 b σ) := by
          intro i hi hg hlt hq a1 a2 h1 h2
          have e2 : nI i + 1 = nI (i + 1) := nI_1 i
          have e3 : snP σ K b i = (decide (nmA σ K (3 * nI i) = nI b) && smX (gbX 200 b σ) 200 (nmA σ K (3 * nI i + 1)) (nmA σ K (3 * nI i + 2))) := rfl
          have e4 := snI_s (P := snP σ K b) (s0 := snO σ K m b) (i := i)
          rw [hq, h1, h2] at e3
          simp only [decide_true, Bool.true_and] at e3
          rw [e3] at e4
          generalize snI (snP σ K b) (snO σ K m b) (i + 1) = acc1 at *
          generalize snI (snP σ K b) (snO σ K m b) i = acc at *
          generalize nI b = nb at *
          refine xtoN [(45, fun L st s => L = [some (.ref 0), some (.ref K), some (.int n), some (.int (nI l)), some (.int acc1), some (.int nb), some (.int (nI (i + 1)))] ∧ st = [] ∧ s = gbX 200 b σ)] (by
            intro q hq L st s hp
            simp only [List.mem_singleton] at hq
            subst hq
            obtain ⟨rfl, rfl, rfl⟩ := hp
            exact hg hlt) 20 ?_
          simp -implicitDefEqProofs only [xwp_2, xwp_0, xwp_1, xws_s, xdd_o, xld_0, xld_s, xs1_0, xs1_1, xs1_s, xs2_0, xs2_1, xs2_s, xlg_n, xlg_i, xlg_r, xlg_z, xlg_l, xf4_0, xf4_1, xf4_2, xf4_3, xgo_e, xcmp_eq, xcmp_ne, xcmp_lt, xcmp_ge, xcmp_gt, xcmp_le, xfg_0, xfg_1, xfg_2, xfg_3, xfg_4, xpop_0, xpop_s, xsw_n, xsw_c, xtb_n, xtb_c, xenp_n, xenp_i, xenp_r, xenp_z, xenp_l, xrep_0, xrep_s, Nat.reduceSub, true_and, and_true, cat_i, cat_r, Nat.reduceAdd, Nat.reduceLT, Nat.reduceLeDiff, Nat.reduceEqDiff, xnc, Int.reduceAdd, Int.reduceSub, Int.reduceNeg, Int.reduceLE, Int.reduceLT, Int.reduceToNat, ↓reduceIte, List.length_cons, List.length_nil, xlc0, xlc1, ite_10, i10, i01, i0_2, i0_3, i0_4, i0_6, i0_7, i0_8, i0_49, i0_10, or_true, true_or, or_false, false_or, not_false_eq_true, not_true_eq_false, xnt, xI_g, eq_self, xI_2, xJ_1, false_and, and_false, obT_t, obS_t, ob6_t, ob2_t, ob0_t, kT1_t, kT2_t, kT3_t, kT4_t, lT1, lT2, rT6, rT7, rT8, rT9, rT1i, rT2i, rS2, kSe_t, lSe, r0_0, r0_1, r0_2, r0_3, r0_4, r0_5, r0_6, r0_7, r0_8, r0_9, r1_i, r2_4, r2_5, r4_4, a1_t, a3_t, a5_t, a6_t, a7_t, a8_t, l1, l3, l5, l6, l7, l8, T1, T2, T3, T4, nI8, nI6, nI160, nI20, nI401, nI49, ob5_t, ob1_t, vp_tn, tn_def, lgc, dX6_seen_0, st_iconst, dX6_seen_1, st_istore_n, dX6_seen_2, dX6_seen_3, st_istore, dX6_seen_5, st_iload, dX6_seen_7, st_iload_n, dX6_seen_8, st_if_icmp, dX6_seen_11, dX6_seen_12, st_aload_n, dX6_seen_13, dX6_seen_14, dX6_seen_16, st_imul, dX6_seen_17, st_invokevirtual, dX6_seen_20, st_invokestatic, dX6_seen_23, dX6_seen_24, st_iinc, dX6_seen_27, st_goto, dX6_seen_30, dX6_seen_31, dX6_seen_33, dX6_seen_34, dX6_seen_36, dX6_seen_38, dX6_seen_39, dX6_seen_42, dX6_seen_43, dX6_seen_45, dX6_seen_47, dX6_seen_48, dX6_seen_51, dX6_seen_52, dX6_seen_53, dX6_seen_55, dX6_seen_56, dX6_seen_59, dX6_seen_61, dX6_seen_64, dX6_seen_65, st_getfield, fl_X6_22, dX6_seen_68, dX6_seen_69, dX6_seen_70, dX6_seen_72, dX6_seen_73, dX6_seen_74, st_iadd, dX6_seen_75, dX6_seen_78, dX6_seen_79, dX6_seen_80, dX6_seen_82, dX6_seen_83, dX6_seen_84, dX6_seen_85, dX6_seen_88, dX6_seen_91, st_ifCond, dX6_seen_94, dX6_seen_97, dX6_seen_100, dX6_seen_103, dX6_seen_104, dX6_seen_107, dX6_seen_110, st_pop, dX6_seen_111, dX6_seen_114, dX6_seen_117, dX6_seen_119, st_ireturn, c_X6_seen_133, pX3_numberAt_e, fX3_numberAt_n, Option.toList_some, Option.toList_none, List.cons_append, List.nil_append, c_X6_seen_307, pMax_e, fMax_e, c_X6_seen_312, pX4_hasSomebodySo_e, fX4_hasSomebodySo_n, c_X6_seen_219, pX4_goBeat_e, fX4_goBeat_e, ofI_0, ofJ_3, ofJ_1, ofJ_2, hp1, hp2, hp3, hp4, hp5, hp6, xwp_L, xlk_c, xlk_n, xcu_s, xcu_n, z1, z2, hp5, hp6, e2]
          generalize smX (gbX 200 b σ) 200 a1 (nmA σ K a2) = xa at *
          refine ⟨fun h3 => ?_, fun h3 => ?_⟩
          · rw [if_neg h3] at e4
            rw [e4]
          · rw [if_pos h3] at e4
            rw [e4]
        have inner : ∀ k i, m - i = k → i ≤ m → xGo WX 7 (xlk fldX6) (xlk calX6_seen) (xlk []) (xlk []) (fun _ => none) 0 cX6_seen Rt 45 [some (.ref 0), some (.ref K), some (.int n), some (.int (nI l)), some (.int (snI (snP σ K b) (snO σ K m b) i)), some (.int (nI b)), some (.int (nI i))] [] (gbX 200 b σ) := by
          intro k
          induction k with
          | zero =>
            intro i hk hi
            have hm2 : i = m := by omega
            have c2 : n ≤ nI i := by rw [hm2, hn0]; exact Int32.le_refl n
            refine xtoS [(36, fun L st s => L = [some (.ref 0), some (.ref K), some (.int n), some (.int (nI l)), some (.int (snI (snP σ K b) (snO σ K m b) i)), some (.int (nI (b + 1))), some (.int (nI i))] ∧ st = [] ∧ s = beatX 200 (gbX 200 b σ))] (by
              intro q hq L st s hp
              simp only [List.mem_singleton] at hq
              subst hq
              obtain ⟨rfl, rfl, rfl⟩ := hp
              have q1 := ih (b + 1) (by omega) (by omega)
              rw [snO_s, gbX_s] at q1
              rw [hm2]
              exact q1) 20 ?_
            simp -implicitDefEqProofs only [xwp_2, xwp_0, xwp_1, xws_s, xdd_o, xld_0, xld_s, xs1_0, xs1_1, xs1_s, xs2_0, xs2_1, xs2_s, xlg_n, xlg_i, xlg_r, xlg_z, xlg_l, xf4_0, xf4_1, xf4_2, xf4_3, xgo_e, xcmp_eq, xcmp_ne, xcmp_lt, xcmp_ge, xcmp_gt, xcmp_le, xfg_0, xfg_1, xfg_2, xfg_3, xfg_4, xpop_0, xpop_s, xsw_n, xsw_c, xtb_n, xtb_c, xenp_n, xenp_i, xenp_r, xenp_z, xenp_l, xrep_0, xrep_s, Nat.reduceSub, true_and, and_true, cat_i, cat_r, Nat.reduceAdd, Nat.reduceLT, Nat.reduceLeDiff, Nat.reduceEqDiff, xnc, Int.reduceAdd, Int.reduceSub, Int.reduceNeg, Int.reduceLE, Int.reduceLT, Int.reduceToNat, ↓reduceIte, List.length_cons, List.length_nil, xlc0, xlc1, ite_10, i10, i01, i0_2, i0_3, i0_4, i0_6, i0_7, i0_8, i0_49, i0_10, or_true, true_or, or_false, false_or, not_false_eq_true, not_true_eq_false, xnt, xI_g, eq_self, xI_2, xJ_1, false_and, and_false, obT_t, obS_t, ob6_t, ob2_t, ob0_t, kT1_t, kT2_t, kT3_t, kT4_t, lT1, lT2, rT6, rT7, rT8, rT9, rT1i, rT2i, rS2, kSe_t, lSe, r0_0, r0_1, r0_2, r0_3, r0_4, r0_5, r0_6, r0_7, r0_8, r0_9, r1_i, r2_4, r2_5, r4_4, a1_t, a3_t, a5_t, a6_t, a7_t, a8_t, l1, l3, l5, l6, l7, l8, T1, T2, T3, T4, nI8, nI6, nI160, nI20, nI401, nI49, ob5_t, ob1_t, vp_tn, tn_def, lgc, dX6_seen_0, st_iconst, dX6_seen_1, st_istore_n, dX6_seen_2, dX6_seen_3, st_istore, dX6_seen_5, st_iload, dX6_seen_7, st_iload_n, dX6_seen_8, st_if_icmp, dX6_seen_11, dX6_seen_12, st_aload_n, dX6_seen_13, dX6_seen_14, dX6_seen_16, st_imul, dX6_seen_17, st_invokevirtual, dX6_seen_20, st_invokestatic, dX6_seen_23, dX6_seen_24, st_iinc, dX6_seen_27, st_goto, dX6_seen_30, dX6_seen_31, dX6_seen_33, dX6_seen_34, dX6_seen_36, dX6_seen_38, dX6_seen_39, dX6_seen_42, dX6_seen_43, dX6_seen_45, dX6_seen_47, dX6_seen_48, dX6_seen_51, dX6_seen_52, dX6_seen_53, dX6_seen_55, dX6_seen_56, dX6_seen_59, dX6_seen_61, dX6_seen_64, dX6_seen_65, st_getfield, fl_X6_22, dX6_seen_68, dX6_seen_69, dX6_seen_70, dX6_seen_72, dX6_seen_73, dX6_seen_74, st_iadd, dX6_seen_75, dX6_seen_78, dX6_seen_79, dX6_seen_80, dX6_seen_82, dX6_seen_83, dX6_seen_84, dX6_seen_85, dX6_seen_88, dX6_seen_91, st_ifCond, dX6_seen_94, dX6_seen_97, dX6_seen_100, dX6_seen_103, dX6_seen_104, dX6_seen_107, dX6_seen_110, st_pop, dX6_seen_111, dX6_seen_114, dX6_seen_117, dX6_seen_119, st_ireturn, c_X6_seen_133, pX3_numberAt_e, fX3_numberAt_n, Option.toList_some, Option.toList_none, List.cons_append, List.nil_append, c_X6_seen_307, pMax_e, fMax_e, c_X6_seen_312, pX4_hasSomebodySo_e, fX4_hasSomebodySo_n, c_X6_seen_219, pX4_goBeat_e, fX4_goBeat_e, ofI_0, ofJ_3, ofJ_1, ofJ_2, hp1, hp2, hp3, hp4, hp5, hp6, xwp_L, xlk_c, xlk_n, xcu_s, xcu_n, z1, hp5, hp6, e1, c2]
            simp
          | succ k ih2 =>
            intro i hk hi
            have hlt : i < m := by omega
            have c2 : ¬ n ≤ nI i := fun q => by
              rw [← hn0] at q
              have := (nI_leI (by omega) (by omega)).mp q
              omega
            have e2 : nI i + 1 = nI (i + 1) := nI_1 i
            have nx := ih2 (i + 1) (by omega) (by omega)
            have e3 : ¬ nmA σ K (3 * nI i) = nI b → snI (snP σ K b) (snO σ K m b) (i + 1) = snI (snP σ K b) (snO σ K m b) i := fun h => by
              rw [snI_s, if_neg]
              intro q
              unfold snP at q
              simp only [Bool.and_eq_true, decide_eq_true_eq] at q
              exact h q.1
            refine xtoS [(45, fun L st s => ¬ nmA σ K (3 * nI i) = nI b ∧ L = [some (.ref 0), some (.ref K), some (.int n), some (.int (nI l)), some (.int (snI (snP σ K b) (snO σ K m b) i)), some (.int (nI b)), some (.int (nI (i + 1)))] ∧ st = [] ∧ s = gbX 200 b σ), (85, fun L st s => nmA σ K (3 * nI i) = nI b ∧ L = [some (.ref 0), some (.ref K), some (.int n), some (.int (nI l)), some (.int (snI (snP σ K b) (snO σ K m b) i)), some (.int (nI b)), some (.int (nI i))] ∧ st = [.int (3 * nI i + 2), .ref K, .int (nmA σ K (3 * nI i + 1)), .ref 200] ∧ s = gbX 200 b σ)] (by
              intro q hq L st s hp
              simp only [List.mem_cons, List.not_mem_nil, or_false] at hq
              rcases hq with hq | hq
              · subst hq
                obtain ⟨h0, rfl, rfl, rfl⟩ := hp
                rw [e3 h0] at nx
                exact nx
              · subst hq
                obtain ⟨h0, rfl, rfl, rfl⟩ := hp
                exact p85 i hi (fun _ => nx) hlt h0 _ _ rfl rfl) 40 ?_
            clear p85 nx ih2 ih
            generalize snI (snP σ K b) (snO σ K m b) i = acc at *
            simp -implicitDefEqProofs only [xwp_2, xwp_0, xwp_1, xws_s, xdd_o, xld_0, xld_s, xs1_0, xs1_1, xs1_s, xs2_0, xs2_1, xs2_s, xlg_n, xlg_i, xlg_r, xlg_z, xlg_l, xf4_0, xf4_1, xf4_2, xf4_3, xgo_e, xcmp_eq, xcmp_ne, xcmp_lt, xcmp_ge, xcmp_gt, xcmp_le, xfg_0, xfg_1, xfg_2, xfg_3, xfg_4, xpop_0, xpop_s, xsw_n, xsw_c, xtb_n, xtb_c, xenp_n, xenp_i, xenp_r, xenp_z, xenp_l, xrep_0, xrep_s, Nat.reduceSub, true_and, and_true, cat_i, cat_r, Nat.reduceAdd, Nat.reduceLT, Nat.reduceLeDiff, Nat.reduceEqDiff, xnc, Int.reduceAdd, Int.reduceSub, Int.reduceNeg, Int.reduceLE, Int.reduceLT, Int.reduceToNat, ↓reduceIte, List.length_cons, List.length_nil, xlc0, xlc1, ite_10, i10, i01, i0_2, i0_3, i0_4, i0_6, i0_7, i0_8, i0_49, i0_10, or_true, true_or, or_false, false_or, not_false_eq_true, not_true_eq_false, xnt, xI_g, xI_2, xJ_1, false_and, and_false, obT_t, obS_t, ob6_t, ob2_t, ob0_t, kT1_t, kT2_t, kT3_t, kT4_t, lT1, lT2, rT6, rT7, rT8, rT9, rT1i, rT2i, rS2, kSe_t, lSe, r0_0, r0_1, r0_2, r0_3, r0_4, r0_5, r0_6, r0_7, r0_8, r0_9, r1_i, r2_4, r2_5, r4_4, a1_t, a3_t, a5_t, a6_t, a7_t, a8_t, l1, l3, l5, l6, l7, l8, T1, T2, T3, T4, nI8, nI6, nI160, nI20, nI401, nI49, ob5_t, ob1_t, vp_tn, tn_def, lgc, dX6_seen_0, st_iconst, dX6_seen_1, st_istore_n, dX6_seen_2, dX6_seen_3, st_istore, dX6_seen_5, st_iload, dX6_seen_7, st_iload_n, dX6_seen_8, st_if_icmp, dX6_seen_11, dX6_seen_12, st_aload_n, dX6_seen_13, dX6_seen_14, dX6_seen_16, st_imul, dX6_seen_17, st_invokevirtual, dX6_seen_20, st_invokestatic, dX6_seen_23, dX6_seen_24, st_iinc, dX6_seen_27, st_goto, dX6_seen_30, dX6_seen_31, dX6_seen_33, dX6_seen_34, dX6_seen_36, dX6_seen_38, dX6_seen_39, dX6_seen_42, dX6_seen_43, dX6_seen_45, dX6_seen_47, dX6_seen_48, dX6_seen_51, dX6_seen_52, dX6_seen_53, dX6_seen_55, dX6_seen_56, dX6_seen_59, dX6_seen_61, dX6_seen_64, dX6_seen_65, st_getfield, fl_X6_22, dX6_seen_68, dX6_seen_69, dX6_seen_70, dX6_seen_72, dX6_seen_73, dX6_seen_74, st_iadd, dX6_seen_75, dX6_seen_78, dX6_seen_79, dX6_seen_80, dX6_seen_82, dX6_seen_83, dX6_seen_84, dX6_seen_85, dX6_seen_88, dX6_seen_91, st_ifCond, dX6_seen_94, dX6_seen_97, dX6_seen_100, dX6_seen_103, dX6_seen_104, dX6_seen_107, dX6_seen_110, st_pop, dX6_seen_111, dX6_seen_114, dX6_seen_117, dX6_seen_119, st_ireturn, c_X6_seen_133, pX3_numberAt_e, fX3_numberAt_n, Option.toList_some, Option.toList_none, List.cons_append, List.nil_append, c_X6_seen_307, pMax_e, fMax_e, c_X6_seen_312, pX4_hasSomebodySo_e, fX4_hasSomebodySo_n, c_X6_seen_219, pX4_goBeat_e, fX4_goBeat_e, ofI_0, ofJ_3, ofJ_1, ofJ_2, hp1, hp2, hp3, hp4, hp5, hp6, xwp_L, xlk_c, xlk_n, xcu_s, xcu_n, z1, z2, hp5, hp6, e1, e2, c2]
            simp
        exact inner m 0 (by omega) (Nat.zero_le _)
      · simp only [xwp_2, xwp_0, xwp_1, xws_s, xdd_o, xld_0, xld_s, xs1_0, xs1_1, xs1_s, xs2_0, xs2_1, xs2_s, xlg_n, xlg_i, xlg_r, xlg_z, xlg_l, xf4_0, xf4_1, xf4_2, xf4_3, xgo_e, xcmp_eq, xcmp_ne, xcmp_lt, xcmp_ge, xcmp_gt, xcmp_le, xfg_0, xfg_1, xfg_2, xfg_3, xfg_4, xpop_0, xpop_s, xsw_n, xsw_c, xtb_n, xtb_c, xenp_n, xenp_i, xenp_r, xenp_z, xenp_l, xrep_0, xrep_s, Nat.reduceSub, true_and, and_true, cat_i, cat_r, Nat.reduceAdd, Nat.reduceLT, Nat.reduceLeDiff, Nat.reduceEqDiff, xnc, Int.reduceAdd, Int.reduceSub, Int.reduceNeg, Int.reduceLE, Int.reduceLT, Int.reduceToNat, ↓reduceIte, List.length_cons, List.length_nil, xlc0, xlc1, ite_10, i10, i01, i0_2, i0_3, i0_4, i0_6, i0_7, i0_8, i0_49, i0_10, or_true, true_or, or_false, false_or, not_false_eq_true, not_true_eq_false, xnt, xI_g, eq_self, xI_2, xJ_1, false_and, and_false, obT_t, obS_t, ob6_t, ob2_t, ob0_t, kT1_t, kT2_t, kT3_t, kT4_t, lT1, lT2, rT6, rT7, rT8, rT9, rT1i, rT2i, rS2, kSe_t, lSe, r0_0, r0_1, r0_2, r0_3, r0_4, r0_5, r0_6, r0_7, r0_8, r0_9, r1_i, r2_4, r2_5, r4_4, a1_t, a3_t, a5_t, a6_t, a7_t, a8_t, l1, l3, l5, l6, l7, l8, T1, T2, T3, T4, nI8, nI6, nI160, nI20, nI401, nI49, ob5_t, ob1_t, vp_tn, tn_def, lgc, dX6_seen_0, st_iconst, dX6_seen_1, st_istore_n, dX6_seen_2, dX6_seen_3, st_istore, dX6_seen_5, st_iload, dX6_seen_7, st_iload_n, dX6_seen_8, st_if_icmp, dX6_seen_11, dX6_seen_12, st_aload_n, dX6_seen_13, dX6_seen_14, dX6_seen_16, st_imul, dX6_seen_17, st_invokevirtual, dX6_seen_20, st_invokestatic, dX6_seen_23, dX6_seen_24, st_iinc, dX6_seen_27, st_goto, dX6_seen_30, dX6_seen_31, dX6_seen_33, dX6_seen_34, dX6_seen_36, dX6_seen_38, dX6_seen_39, dX6_seen_42, dX6_seen_43, dX6_seen_45, dX6_seen_47, dX6_seen_48, dX6_seen_51, dX6_seen_52, dX6_seen_53, dX6_seen_55, dX6_seen_56, dX6_seen_59, dX6_seen_61, dX6_seen_64, dX6_seen_65, st_getfield, fl_X6_22, dX6_seen_68, dX6_seen_69, dX6_seen_70, dX6_seen_72, dX6_seen_73, dX6_seen_74, st_iadd, dX6_seen_75, dX6_seen_78, dX6_seen_79, dX6_seen_80, dX6_seen_82, dX6_seen_83, dX6_seen_84, dX6_seen_85, dX6_seen_88, dX6_seen_91, st_ifCond, dX6_seen_94, dX6_seen_97, dX6_seen_100, dX6_seen_103, dX6_seen_104, dX6_seen_107, dX6_seen_110, st_pop, dX6_seen_111, dX6_seen_114, dX6_seen_117, dX6_seen_119, st_ireturn, c_X6_seen_133, pX3_numberAt_e, fX3_numberAt_n, Option.toList_some, Option.toList_none, List.cons_append, List.nil_append, c_X6_seen_307, pMax_e, fMax_e, c_X6_seen_312, pX4_hasSomebodySo_e, fX4_hasSomebodySo_n, c_X6_seen_219, pX4_goBeat_e, fX4_goBeat_e, ofI_0, ofJ_3, ofJ_1, ofJ_2, hp1, hp2, hp3, hp4, hp5, hp6, c1]
        simp only [snI_0, nI_0, false_implies, implies_true, and_self]
  refine xto 5 (fun L st s => L = [some (.ref 0), some (.ref K), some (.int n), some (.int (snL σ K 0)), some (.int (nI 0)), none, none] ∧ st = [] ∧ s = σ) 12 ?_ ?_
  · rintro L st s ⟨eL, est, es⟩
    rw [eL, est, es]
    refine xfor2 5 36 m 40 (fun L st s => L = [some (.ref 0), some (.ref K), some (.int n), some (.int (nI l)), some (.int (snO σ K m 0)), some (.int (nI 0)), snl m 0] ∧ st = [] ∧ s = gbX 200 0 σ) (by rintro L st s ⟨rfl, rfl, rfl⟩; exact outer (l + 1) 0 (by omega) (by omega)) (fun i => [some (.ref 0), some (.ref K), some (.int n), some (.int (snL σ K i)), some (.int (nI i)), none, none]) (fun _ => σ) (fun _ => True) (fun i hi _ => ?_) 0 (Nat.zero_le _) trivial
    simp only [xwp_2, xwp_0, xwp_1, xws_s, xdd_o, xld_0, xld_s, xs1_0, xs1_1, xs1_s, xs2_0, xs2_1, xs2_s, xlg_n, xlg_i, xlg_r, xlg_z, xlg_l, xf4_0, xf4_1, xf4_2, xf4_3, xgo_e, xcmp_eq, xcmp_ne, xcmp_lt, xcmp_ge, xcmp_gt, xcmp_le, xfg_0, xfg_1, xfg_2, xfg_3, xfg_4, xpop_0, xpop_s, xsw_n, xsw_c, xtb_n, xtb_c, xenp_n, xenp_i, xenp_r, xenp_z, xenp_l, xrep_0, xrep_s, Nat.reduceSub, true_and, and_true, cat_i, cat_r, Nat.reduceAdd, Nat.reduceLT, Nat.reduceLeDiff, Nat.reduceEqDiff, xnc, Int.reduceAdd, Int.reduceSub, Int.reduceNeg, Int.reduceLE, Int.reduceLT, Int.reduceToNat, ↓reduceIte, List.length_cons, List.length_nil, xlc0, xlc1, ite_10, i10, i01, i0_2, i0_3, i0_4, i0_6, i0_7, i0_8, i0_49, i0_10, or_true, true_or, or_false, false_or, not_false_eq_true, not_true_eq_false, xnt, xI_g, eq_self, xI_2, xJ_1, false_and, and_false, obT_t, obS_t, ob6_t, ob2_t, ob0_t, kT1_t, kT2_t, kT3_t, kT4_t, lT1, lT2, rT6, rT7, rT8, rT9, rT1i, rT2i, rS2, kSe_t, lSe, r0_0, r0_1, r0_2, r0_3, r0_4, r0_5, r0_6, r0_7, r0_8, r0_9, r1_i, r2_4, r2_5, r4_4, a1_t, a3_t, a5_t, a6_t, a7_t, a8_t, l1, l3, l5, l6, l7, l8, T1, T2, T3, T4, nI8, nI6, nI160, nI20, nI401, nI49, ob5_t, ob1_t, vp_tn, tn_def, lgc, dX6_seen_0, st_iconst, dX6_seen_1, st_istore_n, dX6_seen_2, dX6_seen_3, st_istore, dX6_seen_5, st_iload, dX6_seen_7, st_iload_n, dX6_seen_8, st_if_icmp, dX6_seen_11, dX6_seen_12, st_aload_n, dX6_seen_13, dX6_seen_14, dX6_seen_16, st_imul, dX6_seen_17, st_invokevirtual, dX6_seen_20, st_invokestatic, dX6_seen_23, dX6_seen_24, st_iinc, dX6_seen_27, st_goto, dX6_seen_30, dX6_seen_31, dX6_seen_33, dX6_seen_34, dX6_seen_36, dX6_seen_38, dX6_seen_39, dX6_seen_42, dX6_seen_43, dX6_seen_45, dX6_seen_47, dX6_seen_48, dX6_seen_51, dX6_seen_52, dX6_seen_53, dX6_seen_55, dX6_seen_56, dX6_seen_59, dX6_seen_61, dX6_seen_64, dX6_seen_65, st_getfield, fl_X6_22, dX6_seen_68, dX6_seen_69, dX6_seen_70, dX6_seen_72, dX6_seen_73, dX6_seen_74, st_iadd, dX6_seen_75, dX6_seen_78, dX6_seen_79, dX6_seen_80, dX6_seen_82, dX6_seen_83, dX6_seen_84, dX6_seen_85, dX6_seen_88, dX6_seen_91, st_ifCond, dX6_seen_94, dX6_seen_97, dX6_seen_100, dX6_seen_103, dX6_seen_104, dX6_seen_107, dX6_seen_110, st_pop, dX6_seen_111, dX6_seen_114, dX6_seen_117, dX6_seen_119, st_ireturn, c_X6_seen_133, pX3_numberAt_e, fX3_numberAt_n, Option.toList_some, Option.toList_none, List.cons_append, List.nil_append, c_X6_seen_307, pMax_e, fMax_e, c_X6_seen_312, pX4_hasSomebodySo_e, fX4_hasSomebodySo_n, c_X6_seen_219, pX4_goBeat_e, fX4_goBeat_e, ofI_0, ofJ_3, ofJ_1, ofJ_2, hp1, hp2, hp3, hp4, hp5, hp6]
    have hc : n ≤ nI i ↔ m ≤ i := by rw [← hn0]; exact nI_leI (by omega) (by omega)
    have e2 : nI i + 1 = nI (i + 1) := nI_1 i
    have e4 : (if snL σ K i < nmA σ K (3 * nI i) then nmA σ K (3 * nI i) else snL σ K i) = snL σ K (i + 1) := rfl
    have e5 : snO σ K m 0 = 0 := rfl
    have e6 : snl m 0 = none := rfl
    have e7 : gbX 200 0 σ = σ := rfl
    have e8 : nI 0 = 0 := rfl
    simp only [hc, e2, e4, e5, e6, e7, e8, hl0]
    refine ⟨fun h => ?_, fun h => ?_⟩
    · have : i = m := by omega
      simp only [this, hl0, e7, and_self]
    · have : i < m := by omega
      simp only [this, true_and, and_true]
  · simp only [xwp_2, xwp_0, xwp_1, xws_s, xdd_o, xld_0, xld_s, xs1_0, xs1_1, xs1_s, xs2_0, xs2_1, xs2_s, xlg_n, xlg_i, xlg_r, xlg_z, xlg_l, xf4_0, xf4_1, xf4_2, xf4_3, xgo_e, xcmp_eq, xcmp_ne, xcmp_lt, xcmp_ge, xcmp_gt, xcmp_le, xfg_0, xfg_1, xfg_2, xfg_3, xfg_4, xpop_0, xpop_s, xsw_n, xsw_c, xtb_n, xtb_c, xenp_n, xenp_i, xenp_r, xenp_z, xenp_l, xrep_0, xrep_s, Nat.reduceSub, true_and, and_true, cat_i, cat_r, Nat.reduceAdd, Nat.reduceLT, Nat.reduceLeDiff, Nat.reduceEqDiff, xnc, Int.reduceAdd, Int.reduceSub, Int.reduceNeg, Int.reduceLE, Int.reduceLT, Int.reduceToNat, ↓reduceIte, List.length_cons, List.length_nil, xlc0, xlc1, ite_10, i10, i01, i0_2, i0_3, i0_4, i0_6, i0_7, i0_8, i0_49, i0_10, or_true, true_or, or_false, false_or, not_false_eq_true, not_true_eq_false, xnt, xI_g, eq_self, xI_2, xJ_1, false_and, and_false, obT_t, obS_t, ob6_t, ob2_t, ob0_t, kT1_t, kT2_t, kT3_t, kT4_t, lT1, lT2, rT6, rT7, rT8, rT9, rT1i, rT2i, rS2, kSe_t, lSe, r0_0, r0_1, r0_2, r0_3, r0_4, r0_5, r0_6, r0_7, r0_8, r0_9, r1_i, r2_4, r2_5, r4_4, a1_t, a3_t, a5_t, a6_t, a7_t, a8_t, l1, l3, l5, l6, l7, l8, T1, T2, T3, T4, nI8, nI6, nI160, nI20, nI401, nI49, ob5_t, ob1_t, vp_tn, tn_def, lgc, dX6_seen_0, st_iconst, dX6_seen_1, st_istore_n, dX6_seen_2, dX6_seen_3, st_istore, dX6_seen_5, st_iload, dX6_seen_7, st_iload_n, dX6_seen_8, st_if_icmp, dX6_seen_11, dX6_seen_12, st_aload_n, dX6_seen_13, dX6_seen_14, dX6_seen_16, st_imul, dX6_seen_17, st_invokevirtual, dX6_seen_20, st_invokestatic, dX6_seen_23, dX6_seen_24, st_iinc, dX6_seen_27, st_goto, dX6_seen_30, dX6_seen_31, dX6_seen_33, dX6_seen_34, dX6_seen_36, dX6_seen_38, dX6_seen_39, dX6_seen_42, dX6_seen_43, dX6_seen_45, dX6_seen_47, dX6_seen_48, dX6_seen_51, dX6_seen_52, dX6_seen_53, dX6_seen_55, dX6_seen_56, dX6_seen_59, dX6_seen_61, dX6_seen_64, dX6_seen_65, st_getfield, fl_X6_22, dX6_seen_68, dX6_seen_69, dX6_seen_70, dX6_seen_72, dX6_seen_73, dX6_seen_74, st_iadd, dX6_seen_75, dX6_seen_78, dX6_seen_79, dX6_seen_80, dX6_seen_82, dX6_seen_83, dX6_seen_84, dX6_seen_85, dX6_seen_88, dX6_seen_91, st_ifCond, dX6_seen_94, dX6_seen_97, dX6_seen_100, dX6_seen_103, dX6_seen_104, dX6_seen_107, dX6_seen_110, st_pop, dX6_seen_111, dX6_seen_114, dX6_seen_117, dX6_seen_119, st_ireturn, c_X6_seen_133, pX3_numberAt_e, fX3_numberAt_n, Option.toList_some, Option.toList_none, List.cons_append, List.nil_append, c_X6_seen_307, pMax_e, fMax_e, c_X6_seen_312, pX4_hasSomebodySo_e, fX4_hasSomebodySo_n, c_X6_seen_219, pX4_goBeat_e, fX4_goBeat_e, ofI_0, ofJ_3, ofJ_1, ofJ_2, hp1, hp2, hp3, hp4, hp5, hp6]
    first | exact rfl | exact ⟨rfl, rfl⟩ | trivial
theorem rX6_seen : ∀ as σ, pX6_seen as σ → ∃ K as', as = .ref K :: as' ∧ xob WX K 6 := by
  rintro as σ ⟨K, n, rfl, hpre⟩
  exact ⟨_, _, rfl, by first | exact hpre | exact hpre.1 | exact obT hpre | exact obT hpre.1 | exact obS hpre | exact obS hpre.1 | exact obM | exact ob6 | exact ob2 | exact ob0⟩
/-- the first beat before this one with the same marks -/
def sbP (σ : xS) (b i : Nat) : Bool := decide (σ.2 7 i = σ.2 7 b ∧ σ.2 8 i = σ.2 8 b)
theorem lt401 {i : Int32} (h : i ≤ 400) : tn i < 401 := by
  have h1 : i.toInt ≤ 400 := by simpa using Int32.le_iff_toInt_le.mp h
  show i.toInt.toNat < 401
  omega
theorem le400_lt {i : Int32} (h : i ≤ 400) : i < 401 := by
  rw [t_lt]
  have h1 : i.toInt ≤ 400 := by simpa using Int32.le_iff_toInt_le.mp h
  show i.toInt < 401
  omega
def pX6_sameBefore (as : List Value) (σ : xS) : Prop := ∃ (b : Int32), as = [.ref 0, .int b] ∧ ((0 ≤ b) ∧ (b ≤ 400))
def fX6_sameBefore (as : List Value) (σ : xS) : Option Value × xS := match as with
  | [.ref 0, .int b] => (some (.int (xfirst (sbP σ (tn b)) (tn b))), σ)
  | _ => (none, σ)
theorem pX6_sameBefore_e {b : Int32} {σ : xS} : pX6_sameBefore [.ref 0, .int b] σ = ((0 ≤ b) ∧ (b ≤ 400)) := propext ⟨fun h => by obtain ⟨b, e, h⟩ := h; cases e; exact h, fun h => ⟨b, rfl, h⟩⟩
theorem fX6_sameBefore_e {b : Int32} {σ : xS} : fX6_sameBefore [.ref 0, .int b] σ = (some (.int (xfirst (sbP σ (tn b)) (tn b))), σ) := rfl
def calX6_sameBefore : List (Nat × xCall) := []
set_option maxHeartbeats 4000000 in
set_option maxRecDepth 100000 in
theorem mX6_sameBefore : xMet WX yX6_sameBefore cX6_sameBefore 3 (some .int) 1 pX6_sameBefore fX6_sameBefore := by
  refine xMet_of (fld := xlk fldX6) (cal := xlk calX6_sameBefore) (ks := xlk []) (gs := xlk []) (ro := fun _ => none) 0 (by decide) WX_nd rfl fldX6_ok xKs_nil xGs_nil (Or.inr rfl) xcal_nil ?_ ?_
  · rintro av σ ⟨b, rfl, hpre⟩
    exact Nat.le_of_ble_eq_true rfl
  rintro av σ ⟨b, rfl, ⟨hp1, hp2⟩⟩ Rt hR
  have h401 := lt401 hp2
  have hb4 : ¬ 401 ≤ b := Int32.not_le.mpr (le400_lt hp2)
  have hb5 : ¬ b < 0 := Int32.not_lt.mpr hp1
  refine xfor0 26 (tn b) 60 20 (fun i => [some (.ref 0), some (.int b), some (.int (nI i))]) (fun i => σ) (fun i => ∀ j, j < i → sbP σ (tn b) j = false) (fun j hj => by omega) (fun i hi hH => ?_) ?_
  · simp only [xwp_2, xwp_0, xwp_1, xws_s, xdd_o, xld_0, xld_s, xs1_0, xs1_1, xs1_s, xs2_0, xs2_1, xs2_s, xlg_n, xlg_i, xlg_r, xlg_z, xlg_l, xf4_0, xf4_1, xf4_2, xf4_3, xgo_e, xcmp_eq, xcmp_ne, xcmp_lt, xcmp_ge, xcmp_gt, xcmp_le, xfg_0, xfg_1, xfg_2, xfg_3, xfg_4, xpop_0, xpop_s, xsw_n, xsw_c, xtb_n, xtb_c, xenp_n, xenp_i, xenp_r, xenp_z, xenp_l, xrep_0, xrep_s, Nat.reduceSub, true_and, and_true, cat_i, cat_r, Nat.reduceAdd, Nat.reduceLT, Nat.reduceLeDiff, Nat.reduceEqDiff, xnc, Int.reduceAdd, Int.reduceSub, Int.reduceNeg, Int.reduceLE, Int.reduceLT, Int.reduceToNat, ↓reduceIte, List.length_cons, List.length_nil, xlc0, xlc1, ite_10, i10, i01, i0_2, i0_3, i0_4, i0_6, i0_7, i0_8, i0_49, i0_10, or_true, true_or, or_false, false_or, not_false_eq_true, not_true_eq_false, xnt, xI_g, eq_self, xI_2, xJ_1, false_and, and_false, obT_t, obS_t, ob6_t, ob2_t, ob0_t, kT1_t, kT2_t, kT3_t, kT4_t, lT1, lT2, rT6, rT7, rT8, rT9, rT1i, rT2i, rS2, kSe_t, lSe, r0_0, r0_1, r0_2, r0_3, r0_4, r0_5, r0_6, r0_7, r0_8, r0_9, r1_i, r2_4, r2_5, r4_4, a1_t, a3_t, a5_t, a6_t, a7_t, a8_t, l1, l3, l5, l6, l7, l8, T1, T2, T3, T4, nI8, nI6, nI160, nI20, nI401, nI49, ob5_t, ob1_t, vp_tn, tn_def, lgc, dX6_sameBefore_0, st_iload_n, dX6_sameBefore_1, st_ifCond, dX6_sameBefore_4, dX6_sameBefore_5, st_aload_n, dX6_sameBefore_6, st_getfield, fl_X6_46, dX6_sameBefore_9, st_arraylength, dX6_sameBefore_10, st_if_icmp, dX6_sameBefore_13, dX6_sameBefore_14, dX6_sameBefore_15, fl_X6_50, dX6_sameBefore_18, dX6_sameBefore_19, dX6_sameBefore_22, st_iconst, dX6_sameBefore_23, st_ireturn, dX6_sameBefore_24, dX6_sameBefore_25, st_istore_n, dX6_sameBefore_26, dX6_sameBefore_27, dX6_sameBefore_28, dX6_sameBefore_31, dX6_sameBefore_32, dX6_sameBefore_35, dX6_sameBefore_36, st_laload, dX6_sameBefore_37, dX6_sameBefore_38, dX6_sameBefore_41, dX6_sameBefore_42, dX6_sameBefore_43, st_lcmp, dX6_sameBefore_44, dX6_sameBefore_47, dX6_sameBefore_48, dX6_sameBefore_51, dX6_sameBefore_52, dX6_sameBefore_53, dX6_sameBefore_54, dX6_sameBefore_57, dX6_sameBefore_58, dX6_sameBefore_59, dX6_sameBefore_60, dX6_sameBefore_63, dX6_sameBefore_64, dX6_sameBefore_65, st_iinc, dX6_sameBefore_68, st_goto, dX6_sameBefore_71, dX6_sameBefore_72, ofI_m1, ofI_0, ofJ_1, hp1, hp2]
    have hc := le_nI_tn (i := i) (x := b) hi
    have e1 : nI i + 1 = nI (i + 1) := nI_1 i
    have e2 : tn (nI i) = i := tn_nI (by omega)
    have e3 : 0 ≤ nI i := nI_pos' (by omega)
    have e4 : i < 401 := by omega
    have e5 : sbP σ (tn b) i = decide (σ.2 7 i = σ.2 7 (tn b) ∧ σ.2 8 i = σ.2 8 (tn b)) := rfl
    have cont : sbP σ (tn b) i = false → (∀ j, j < i + 1 → sbP σ (tn b) j = false) := fun h2 => xall_s hH h2
    have fin : i = tn b → Rt (some (.int (-1))) σ := fun h => by
      rw [hR, fX6_sameBefore_e, xfirst_no (by rw [h] at hH; exact hH)]
      exact ⟨rfl, rfl⟩
    have stop : i < tn b → sbP σ (tn b) i = true → Rt (some (.int (nI i))) σ := fun h1 h2 => by
      rw [hR, fX6_sameBefore_e, xfirst_at h1 h2 hH]
      exact ⟨rfl, rfl⟩
    simp only [hc, e1, e2, e3, e4, hp1, h401]
    clear hR
    grind
  · simp only [xwp_2, xwp_0, xwp_1, xws_s, xdd_o, xld_0, xld_s, xs1_0, xs1_1, xs1_s, xs2_0, xs2_1, xs2_s, xlg_n, xlg_i, xlg_r, xlg_z, xlg_l, xf4_0, xf4_1, xf4_2, xf4_3, xgo_e, xcmp_eq, xcmp_ne, xcmp_lt, xcmp_ge, xcmp_gt, xcmp_le, xfg_0, xfg_1, xfg_2, xfg_3, xfg_4, xpop_0, xpop_s, xsw_n, xsw_c, xtb_n, xtb_c, xenp_n, xenp_i, xenp_r, xenp_z, xenp_l, xrep_0, xrep_s, Nat.reduceSub, true_and, and_true, cat_i, cat_r, Nat.reduceAdd, Nat.reduceLT, Nat.reduceLeDiff, Nat.reduceEqDiff, xnc, Int.reduceAdd, Int.reduceSub, Int.reduceNeg, Int.reduceLE, Int.reduceLT, Int.reduceToNat, ↓reduceIte, List.length_cons, List.length_nil, xlc0, xlc1, ite_10, i10, i01, i0_2, i0_3, i0_4, i0_6, i0_7, i0_8, i0_49, i0_10, or_true, true_or, or_false, false_or, not_false_eq_true, not_true_eq_false, xnt, xI_g, eq_self, xI_2, xJ_1, false_and, and_false, obT_t, obS_t, ob6_t, ob2_t, ob0_t, kT1_t, kT2_t, kT3_t, kT4_t, lT1, lT2, rT6, rT7, rT8, rT9, rT1i, rT2i, rS2, kSe_t, lSe, r0_0, r0_1, r0_2, r0_3, r0_4, r0_5, r0_6, r0_7, r0_8, r0_9, r1_i, r2_4, r2_5, r4_4, a1_t, a3_t, a5_t, a6_t, a7_t, a8_t, l1, l3, l5, l6, l7, l8, T1, T2, T3, T4, nI8, nI6, nI160, nI20, nI401, nI49, ob5_t, ob1_t, vp_tn, tn_def, lgc, dX6_sameBefore_0, st_iload_n, dX6_sameBefore_1, st_ifCond, dX6_sameBefore_4, dX6_sameBefore_5, st_aload_n, dX6_sameBefore_6, st_getfield, fl_X6_46, dX6_sameBefore_9, st_arraylength, dX6_sameBefore_10, st_if_icmp, dX6_sameBefore_13, dX6_sameBefore_14, dX6_sameBefore_15, fl_X6_50, dX6_sameBefore_18, dX6_sameBefore_19, dX6_sameBefore_22, st_iconst, dX6_sameBefore_23, st_ireturn, dX6_sameBefore_24, dX6_sameBefore_25, st_istore_n, dX6_sameBefore_26, dX6_sameBefore_27, dX6_sameBefore_28, dX6_sameBefore_31, dX6_sameBefore_32, dX6_sameBefore_35, dX6_sameBefore_36, st_laload, dX6_sameBefore_37, dX6_sameBefore_38, dX6_sameBefore_41, dX6_sameBefore_42, dX6_sameBefore_43, st_lcmp, dX6_sameBefore_44, dX6_sameBefore_47, dX6_sameBefore_48, dX6_sameBefore_51, dX6_sameBefore_52, dX6_sameBefore_53, dX6_sameBefore_54, dX6_sameBefore_57, dX6_sameBefore_58, dX6_sameBefore_59, dX6_sameBefore_60, dX6_sameBefore_63, dX6_sameBefore_64, dX6_sameBefore_65, st_iinc, dX6_sameBefore_68, st_goto, dX6_sameBefore_71, dX6_sameBefore_72, ofI_m1, ofI_0, ofJ_1, hp1, hp2]
    have z : nI 0 = 0 := rfl
    have hb6 := le400_lt hp2
    simp only [hb4, hb5, hb6, z, false_implies, true_implies, implies_true, not_true_eq_false, not_false_eq_true, and_self, and_true, true_and]
theorem rX6_sameBefore : ∀ as σ, pX6_sameBefore as σ → ∃ K as', as = .ref K :: as' ∧ xob WX K 6 := by
  rintro as σ ⟨b, rfl, hpre⟩
  exact ⟨_, _, rfl, by first | exact hpre | exact hpre.1 | exact obT hpre | exact obT hpre.1 | exact obS hpre | exact obS hpre.1 | exact obM | exact ob6 | exact ob2 | exact ob0⟩
