/-! somebody hired, as the reference looks for the place -/
def hqP (W : xS) (g : Int32) (j : Nat) : Bool := decide (hvM (gbM j W) g = xshl 1 (W.1 0 1) - 1)
def hqN (W : xS) (g l : Int32) : Nat := xfs (hqP W g) (tn l)
def hqW (U : xS) (g : Int32) (p d : Nat) : xS := adM U 1 (nI p) (nI d) g 0
def hqZ (W : xS) (n : Int32) (j : Nat) : xS := baM (xI (gbM j W) 0 1 n)
def hqD (g n : Int32) (p : Nat) (F : Int32 × Int32 × xS) (d : Nat) : Int32 × Int32 × xS := (if nI (hqN (hqW F.2.2 g p d) g F.2.1) < F.2.1 then nI (4 * p + d) else F.1, if nI (hqN (hqW F.2.2 g p d) g F.2.1) < F.2.1 then nI (hqN (hqW F.2.2 g p d) g F.2.1) else F.2.1, hqZ (hqW F.2.2 g p d) n (hqN (hqW F.2.2 g p d) g F.2.1))
def hqI (g n : Int32) (p : Nat) (F0 : Int32 × Int32 × xS) : Nat → Int32 × Int32 × xS
  | 0 => F0
  | d + 1 => hqD g n p (hqI g n p F0 d) d
def hqQ (D : Nat) (g n : Int32) (F : Int32 × Int32 × xS) (p : Nat) : Int32 × Int32 × xS := if F.2.2.1 10 p = 1 ∨ itM F.2.2 (nI p) = true then F else hqI g n p F D
def hqO (D : Nat) (σ : xS) (g : Int32) : Nat → Int32 × Int32 × xS
  | 0 => (-1, 101, bgM σ)
  | p + 1 => hqQ D g (σ.1 0 1) (hqO D σ g p) p
theorem hqI_s {g n : Int32} {p d : Nat} {F0 : Int32 × Int32 × xS} : hqI g n p F0 (d + 1) = hqD g n p (hqI g n p F0 d) d := rfl
theorem hqI_0 {g n : Int32} {p : Nat} {F0 : Int32 × Int32 × xS} : hqI g n p F0 0 = F0 := rfl
theorem hqO_s {D : Nat} {σ : xS} {g : Int32} {p : Nat} : hqO D σ g (p + 1) = hqQ D g (σ.1 0 1) (hqO D σ g p) p := rfl
def hqR (F : Int32 × Int32 × xS) (x : Int32) : Int32 × xS := (if F.1 = -1 then -1 else if x = 0 then F.1 else F.2.1, F.2.2)
def hirM (σ : xS) (g x : Int32) : Int32 × xS := if ¬ (0 ≤ g ∧ g < σ.1 0 0) then ntM σ (-1) else if x < 0 ∨ 1 < x then ntM σ (-5) else if σ.1 0 1 = 6 then ntM σ (-7) else hqR (hqO 4 σ g 49) x
theorem hqZ_1 {W : xS} {n : Int32} {j : Nat} : (hqZ W n j).1 0 1 = n := by unfold hqZ; rw [baM_k, xI_s]
theorem hqI_1 {g n : Int32} {p : Nat} {F0 : Int32 × Int32 × xS} (h : F0.2.2.1 0 1 = n) : ∀ {d : Nat}, (hqI g n p F0 d).2.2.1 0 1 = n
  | 0 => h
  | d + 1 => by rw [hqI_s, hqD]; exact hqZ_1
theorem hqQ_1 {D : Nat} {g n : Int32} {p : Nat} {F : Int32 × Int32 × xS} (h : F.2.2.1 0 1 = n) : (hqQ D g n F p).2.2.1 0 1 = n := by
  unfold hqQ
  split
  · exact h
  · exact hqI_1 h
theorem hqO_1 {D : Nat} {σ : xS} {g : Int32} : ∀ {p : Nat}, (hqO D σ g p).2.2.1 0 1 = σ.1 0 1
  | 0 => bgM_k
  | p + 1 => by rw [hqO_s]; exact hqQ_1 hqO_1
theorem hqW_1 {U : xS} {g : Int32} {p d : Nat} : (hqW U g p d).1 0 1 = U.1 0 1 + 1 := adM_1
theorem hqW_f {U : xS} {g : Int32} {p d : Nat} : adM U 1 (nI p) (nI d) g 0 = hqW U g p d := rfl
theorem hqZ_f {W : xS} {n : Int32} {j : Nat} : baM (xI (gbM j W) 0 1 n) = hqZ W n j := rfl
def HOK (D : Nat) (σ : xS) (g : Int32) : Prop := ∀ p, p < 49 → ∀ d, d < 4 → BOK (hqW (hqI g (σ.1 0 1) p (hqO D σ g p) d).2.2 g p d)
theorem lt6_6 {x : Int32} (h1 : x ≤ 6) (h2 : ¬ x = 6) : x < 6 := by
  have a1 := t_le.mp h1
  have e6 : (6 : Int32).toInt = 6 := rfl
  have : ¬ x.toInt = (6 : Int32).toInt := fun q => h2 (Int32.toInt_inj.mp q)
  rw [t_lt]
  omega
def pX7_hire (as : List Value) (σ : xS) : Prop := ∃ (g : Int32) (x : Int32), as = [.ref 0, .int g, .int x] ∧ ((0 ≤ σ.1 0 1) ∧ (σ.1 0 1 ≤ 6) ∧ ((0 ≤ g ∧ g < σ.1 0 0) → ¬ σ.1 0 1 = 6 → HOK 4 σ g))
def fX7_hire (as : List Value) (σ : xS) : Option Value × xS := match as with
  | [.ref 0, .int g, .int x] => (some (.int (hirM σ g x).1), (hirM σ g x).2)
  | _ => (none, σ)
theorem pX7_hire_e {g : Int32} {x : Int32} {σ : xS} : pX7_hire [.ref 0, .int g, .int x] σ = ((0 ≤ σ.1 0 1) ∧ (σ.1 0 1 ≤ 6) ∧ ((0 ≤ g ∧ g < σ.1 0 0) → ¬ σ.1 0 1 = 6 → HOK 4 σ g)) := propext ⟨fun h => by obtain ⟨g, x, e, h⟩ := h; cases e; exact h, fun h => ⟨g, x, rfl, h⟩⟩
theorem fX7_hire_e {g : Int32} {x : Int32} {σ : xS} : fX7_hire [.ref 0, .int g, .int x] σ = (some (.int (hirM σ g x).1), (hirM σ g x).2) := rfl
def calX7_hire : List (Nat × xCall) := [(161, (false, 2, pX7_isGait, fX7_isGait)), (164, (false, 2, pX7_noTen, fX7_noTen)), (290, (false, 1, pX7_begins, fX7_begins)), (177, (false, 2, pX7_isTaken, fX7_isTaken)), (170, (false, 6, pX7_adds, fX7_adds)), (299, (false, 2, pX7_having, fX7_having)), (284, (false, 1, pX7_beats1, fX7_beats1)), (296, (false, 1, pX7_backAgain, fX7_backAgain))]
theorem c_X7_hire_161 : xlk calX7_hire 161 = some (false, 2, pX7_isGait, fX7_isGait) := rfl
theorem c_X7_hire_164 : xlk calX7_hire 164 = some (false, 2, pX7_noTen, fX7_noTen) := rfl
theorem c_X7_hire_290 : xlk calX7_hire 290 = some (false, 1, pX7_begins, fX7_begins) := rfl
theorem c_X7_hire_177 : xlk calX7_hire 177 = some (false, 2, pX7_isTaken, fX7_isTaken) := rfl
theorem c_X7_hire_170 : xlk calX7_hire 170 = some (false, 6, pX7_adds, fX7_adds) := rfl
theorem c_X7_hire_299 : xlk calX7_hire 299 = some (false, 2, pX7_having, fX7_having) := rfl
theorem c_X7_hire_284 : xlk calX7_hire 284 = some (false, 1, pX7_beats1, fX7_beats1) := rfl
theorem c_X7_hire_296 : xlk calX7_hire 296 = some (false, 1, pX7_backAgain, fX7_backAgain) := rfl
set_option maxHeartbeats 400000 in
set_option maxRecDepth 100000 in
theorem mX7_hire : xMet WM yX7_hire cX7_hire 9 (some .int) 4 pX7_hire fX7_hire := by
  refine xMet_of (fld := xlk fldX7) (cal := xlk calX7_hire) (ks := xlk []) (gs := xlk []) (ro := fun _ => none) 0 (by decide) WM_nd rfl fldX7_ok xKs_nil xGs_nil (Or.inr rfl) (xcal_cons (xCk_V mX7_isGait 7 (by decide) (by decide) (by decide) rfl (fun as σ h _ => rX7_isGait as σ h) w_X7_161 ⟨by decide, by decide, by decide +kernel⟩) (xcal_cons (xCk_V mX7_noTen 7 (by decide) (by decide) (by decide) rfl (fun as σ h _ => rX7_noTen as σ h) w_X7_164 ⟨by decide, by decide, by decide +kernel⟩) (xcal_cons (xCk_V mX7_begins 7 (by decide) (by decide) (by decide) rfl (fun as σ h _ => rX7_begins as σ h) w_X7_290 ⟨by decide, by decide, by decide +kernel⟩) (xcal_cons (xCk_V mX7_isTaken 7 (by decide) (by decide) (by decide) rfl (fun as σ h _ => rX7_isTaken as σ h) w_X7_177 ⟨by decide, by decide, by decide +kernel⟩) (xcal_cons (xCk_V mX7_adds 7 (by decide) (by decide) (by decide) rfl (fun as σ h _ => rX7_adds as σ h) w_X7_170 ⟨by decide, by decide, by decide +kernel⟩) (xcal_cons (xCk_V mX7_having 7 (by decide) (by decide) (by decide) rfl (fun as σ h _ => rX7_having as σ h) w_X7_299 ⟨by decide, by decide, by decide +kernel⟩) (xcal_cons (xCk_V mX7_beats1 7 (by decide) (by decide) (by decide) rfl (fun as σ h _ => rX7_beats1 as σ h) w_X7_284 ⟨by decide, by decide, by decide +kernel⟩) (xcal_cons (xCk_V mX7_backAgain 7 (by decide) (by decide) (by decide) rfl (fun as σ h _ => rX7_backAgain as σ h) w_X7_296 ⟨by decide, by decide, by decide +kernel⟩) xcal_nil)))))))) ?_ ?_
  · rintro av σ ⟨g, x, rfl, hpre⟩
    exact Nat.le_of_ble_eq_true rfl
  rintro av σ ⟨g, x, rfl, ⟨hp1, hp2, hp3⟩⟩ Rt hR
  have hR2 := hR2_g (Rt := Rt) (F := hirM σ g x) (fun r s' => by rw [hR, fX7_hire_e])
  clear hR
  obtain ⟨D, hD⟩ : ∃ D : Nat, D = 4 := ⟨_, rfl⟩
  obtain ⟨M, hM⟩ : ∃ M : Nat, M = 49 := ⟨_, rfl⟩
  have hE0 : hirM σ g x = if ¬ (0 ≤ g ∧ g < σ.1 0 0) then ntM σ (-1) else if x < 0 ∨ 1 < x then ntM σ (-5) else if σ.1 0 1 = 6 then ntM σ (-7) else hqR (hqO D σ g M) x := by rw [hirM, hD, hM]
  rw [hE0] at hR2
  clear hE0
  have h65 : ((0 ≤ g ∧ g < σ.1 0 0) ∧ ¬ (x < 0 ∨ 1 < x) ∧ ¬ σ.1 0 1 = 6) → xGo WM 9 (xlk fldX7) (xlk calX7_hire) (xlk []) (xlk []) (fun _ => none) 0 cX7_hire Rt 65 [some (.ref 0), some (.int g), some (.int x), some (.int (hqO D σ g 0).1), some (.int (hqO D σ g 0).2.1), some (.int (σ.1 0 1)), some (.int (nI 0)), none, none] [] (hqO D σ g 0).2.2 := fun hg => by
    obtain ⟨hg1, hg2, hg3⟩ := hg
    rw [if_neg (fun q => q hg1), if_neg hg2, if_neg hg3] at hR2
    have hH := hp3 hg1 hg3
    rw [← hD] at hH
    unfold HOK at hH
    have hn6' := lt6_6 hp2 hg3
    have c1 := cnt_1 hp1 hn6' (Or.inr rfl)
    have n0 := c1.1
    have n6 := c1.2
    have n0' := hp1
    have n6' := hn6'
    have hn0 := hp1
    have hn6 := hp2
    have i1 : ((1 : Int32) = 0) = False := eq_false (by decide)
    clear hg1 hg2 hg3 c1
    generalize hn : σ.1 0 1 = n at *
    have h65 : ∀ p, p ≤ 49 → xGo WM 9 (xlk fldX7) (xlk calX7_hire) (xlk []) (xlk []) (fun _ => none) 0 cX7_hire Rt 65 [some (.ref 0), some (.int g), some (.int x), some (.int (hqO D σ g p).1), some (.int (hqO D σ g p).2.1), some (.int n), some (.int (nI p)), none, none] [] ((hqO D σ g p).2.2) := by
      refine xcount (49) (fun p => xGo WM 9 (xlk fldX7) (xlk calX7_hire) (xlk []) (xlk []) (fun _ => none) 0 cX7_hire Rt 65 [some (.ref 0), some (.int g), some (.int x), some (.int (hqO D σ g p).1), some (.int (hqO D σ g p).2.1), some (.int n), some (.int (nI p)), none, none] [] ((hqO D σ g p).2.2)) (fun p hp ih => ?_)
      have hcp : (49 : Int32) ≤ nI p ↔ 49 ≤ p := nI_leI (a := 49) (by omega) (by omega)
      have e0p : 0 ≤ nI p := nI_pos' (by omega)
      have e1p : nI p + 1 = nI (p + 1) := nI_1 p
      have e2p : tn (nI p) = p := tn_nI (by omega)
      have hk1 : (hqO D σ g p).2.2.1 0 1 = n := by rw [hqO_1, hn]
      have h98 : p < 49 → ¬ ((hqO D σ g p).2.2.1 10 p = 1 ∨ itM (hqO D σ g p).2.2 (nI p) = true) → xGo WM 9 (xlk fldX7) (xlk calX7_hire) (xlk []) (xlk []) (fun _ => none) 0 cX7_hire Rt 98 [some (.ref 0), some (.int g), some (.int x), some (.int (hqO D σ g p).1), some (.int (hqO D σ g p).2.1), some (.int n), some (.int (nI p)), some (.int (nI 0)), none] [] (hqO D σ g p).2.2 := fun hp49 hfr => by
        have hB := hH p hp49
        have hn4 : hqI g n p (hqO D σ g p) D = hqO D σ g (p + 1) := by rw [hqO_s, hqQ, if_neg hfr, hn]
        have ih65 := ih hp49
        have hF1 := hk1
        clear ih hcp hfr hH
        generalize hqO D σ g p = F0 at *
        have h98i : ∀ d, d ≤ 4 → xGo WM 9 (xlk fldX7) (xlk calX7_hire) (xlk []) (xlk []) (fun _ => none) 0 cX7_hire Rt 98 [some (.ref 0), some (.int g), some (.int x), some (.int (hqI g n p F0 d).1), some (.int (hqI g n p F0 d).2.1), some (.int n), some (.int (nI p)), some (.int (nI d)), none] [] ((hqI g n p F0 d).2.2) := by
          refine xcount (4) (fun d => xGo WM 9 (xlk fldX7) (xlk calX7_hire) (xlk []) (xlk []) (fun _ => none) 0 cX7_hire Rt 98 [some (.ref 0), some (.int g), some (.int x), some (.int (hqI g n p F0 d).1), some (.int (hqI g n p F0 d).2.1), some (.int n), some (.int (nI p)), some (.int (nI d)), none] [] ((hqI g n p F0 d).2.2)) (fun d hd ihd => ?_)
          have hcd : (4 : Int32) ≤ nI d ↔ 4 ≤ d := nI_leI (a := 4) (by omega) (by omega)
          have e0d : 0 ≤ nI d := nI_pos' (by omega)
          have e1d : nI d + 1 = nI (d + 1) := nI_1 d
          have e2d : tn (nI d) = d := tn_nI (by omega)
          have hk : (hqI g n p F0 d).2.2.1 0 1 = n := hqI_1 hF1
          have h119 : d < 4 → xGo WM 9 (xlk fldX7) (xlk calX7_hire) (xlk []) (xlk []) (fun _ => none) 0 cX7_hire Rt 119 [some (.ref 0), some (.int g), some (.int x), some (.int (hqI g n p F0 d).1), some (.int (hqI g n p F0 d).2.1), some (.int n), some (.int (nI p)), some (.int (nI d)), some (.int (nI 0))] [] (gbM 0 (hqW (hqI g n p F0 d).2.2 g p d)) := fun hd4 => by
            have ih98 := ihd hd4
            have hB := BOK_e (hB d hd4)
            rw [hqI_s] at ih98
            clear ihd ih65 hcd hn4
            generalize hqI g n p F0 d = F at *
            have hWk : (hqW F.2.2 g p d).1 0 1 = n + 1 := by rw [hqW_1, hk]
            generalize hW : hqW F.2.2 g p d = W at *
            have h119i : ∀ j, j ≤ tn F.2.1 → (∀ v, v < j → hqP W g v = false) → xGo WM 9 (xlk fldX7) (xlk calX7_hire) (xlk []) (xlk []) (fun _ => none) 0 cX7_hire Rt 119 [some (.ref 0), some (.int g), some (.int x), some (.int F.1), some (.int F.2.1), some (.int n), some (.int (nI p)), some (.int (nI d)), some (.int (nI j))] [] (gbM j W) := by
              refine xcount (tn F.2.1) (fun j => (∀ v, v < j → hqP W g v = false) → xGo WM 9 (xlk fldX7) (xlk calX7_hire) (xlk []) (xlk []) (fun _ => none) 0 cX7_hire Rt 119 [some (.ref 0), some (.int g), some (.int x), some (.int F.1), some (.int F.2.1), some (.int n), some (.int (nI p)), some (.int (nI d)), some (.int (nI j))] [] (gbM j W)) (fun j hj ihj hH => ?_)
              have hcj := le_nI_tn (i := j) (x := F.2.1) hj
              have hBj := hB j
              have hj31 := tn_lt31 F.2.1
              have e0j : 0 ≤ nI j := nI_pos' (by omega)
              have e1j : nI j + 1 = nI (j + 1) := nI_1 j
              have e2j : tn (nI j) = j := tn_nI (by omega)
              refine xtoCs [(119, xPc (j < tn F.2.1 ∧ (∀ v, v < (j + 1) → hqP W g v = false)) [some (.ref 0), some (.int g), some (.int x), some (.int F.1), some (.int F.2.1), some (.int n), some (.int (nI p)), some (.int (nI d)), some (.int (nI (j + 1)))] (gbM (j + 1) W)), (98, xPc (True) [some (.ref 0), some (.int g), some (.int x), some (.int (hqD g n p F d).1), some (.int (hqD g n p F d).2.1), some (.int n), some (.int (nI p)), some (.int (nI (d + 1))), none] ((hqD g n p F d).2.2))] (xcs_cons (fun q => ihj q.1 q.2) (xcs_cons (fun _ => ih98) xcs_nil)) 60 (fun cf hcf => ?_)
              have k119 : cf 119 = some (xPc (j < tn F.2.1 ∧ (∀ v, v < (j + 1) → hqP W g v = false)) [some (.ref 0), some (.int g), some (.int x), some (.int F.1), some (.int F.2.1), some (.int n), some (.int (nI p)), some (.int (nI d)), some (.int (nI (j + 1)))] (gbM (j + 1) W)) := (hcf 119).trans rfl
              have k98 : cf 98 = some (xPc (True) [some (.ref 0), some (.int g), some (.int x), some (.int (hqD g n p F d).1), some (.int (hqD g n p F d).2.1), some (.int n), some (.int (nI p)), some (.int (nI (d + 1))), none] ((hqD g n p F d).2.2)) := (hcf 98).trans rfl
              have kn : ∀ pc, ¬ pc = 119 → ¬ pc = 98 → cf pc = none := fun pc h0 h1 => by rw [hcf, xlk_c, if_neg h0, xlk_c, if_neg h1, xlk_n]
              clear hcf
              simp (config := {maxSteps := 4000000, implicitDefEqProofs := false}) only [xwp_2, xwp_0, xwp_1, xws_s, xdd_o, xld_0, xld_s, xs1_0, xs1_1, xs1_s, xs2_0, xs2_1, xs2_s, xlg_n, xlg_i, xlg_r, xlg_z, xlg_l, xf4_0, xf4_1, xf4_2, xf4_3, xgo_e, xcmp_eq, xcmp_ne, xcmp_lt, xcmp_ge, xcmp_gt, xcmp_le, xfg_0, xfg_1, xfg_2, xfg_3, xfg_4, xpop_0, xpop_s, xsw_n, xsw_c, xtb_n, xtb_c, xenp_n, xenp_i, xenp_r, xenp_z, xenp_l, xrep_0, xrep_s, Nat.reduceSub, true_and, and_true, cat_i, cat_r, Nat.reduceAdd, Nat.reduceLT, Nat.reduceLeDiff, Nat.reduceEqDiff, xnc, Int.reduceAdd, Int.reduceSub, Int.reduceNeg, Int.reduceLE, Int.reduceLT, Int.reduceToNat, ↓reduceIte, List.length_cons, List.length_nil, xlc0, xlc1, ite_10, i10, i01, i0_2, i0_3, i0_4, i0_6, i0_7, i0_8, i0_49, i0_10, or_true, true_or, or_false, false_or, not_false_eq_true, not_true_eq_false, xnt, xI_g, eq_self, xI_2, xJ_1, false_and, and_false, obM_t, rMi, vp_tn, tn_def, lgc, nI8, nI6, nI160, nI20, nI401, nI49, aM_6, aM_7, aM_8, aM_9, aM_10, aM_11, aM_12, aM_13, aM_14, aM_15, aM_16, aM_17, aM_18, aM_19, aM_20, aM_21, aM_22, aM_23, aM_24, aM_25, aM_26, aM_27, aM_28, aM_29, aM_30, aM_31, aM_38, aM_39, aM_40, aM_41, aM_42, aM_43, aM_44, aM_45, aM_46, aM_47, lM_6, lM_7, lM_8, lM_9, lM_10, lM_11, lM_12, lM_13, lM_14, lM_15, lM_16, lM_17, lM_18, lM_19, lM_20, lM_21, lM_22, lM_23, lM_24, lM_25, lM_26, lM_27, lM_28, lM_29, lM_30, lM_31, lM_38, lM_39, lM_40, lM_41, lM_42, lM_43, lM_44, lM_45, lM_46, lM_47, dX7_hire_0, st_aload_n, dX7_hire_1, st_iload_n, dX7_hire_2, st_invokevirtual, dX7_hire_5, st_ifCond, dX7_hire_8, dX7_hire_9, st_iconst, dX7_hire_10, dX7_hire_13, st_ireturn, dX7_hire_14, dX7_hire_15, dX7_hire_18, dX7_hire_19, dX7_hire_20, st_if_icmp, dX7_hire_23, dX7_hire_24, st_bipush, dX7_hire_26, dX7_hire_29, dX7_hire_30, dX7_hire_31, st_getfield, fl_X7_126, dX7_hire_34, dX7_hire_36, dX7_hire_39, dX7_hire_40, dX7_hire_42, dX7_hire_45, dX7_hire_46, dX7_hire_47, st_istore_n, dX7_hire_48, dX7_hire_50, st_istore, dX7_hire_52, dX7_hire_53, dX7_hire_56, dX7_hire_58, dX7_hire_59, dX7_hire_62, dX7_hire_63, dX7_hire_65, st_iload, dX7_hire_67, dX7_hire_69, dX7_hire_72, dX7_hire_73, fl_X7_29, dX7_hire_76, dX7_hire_78, st_iaload, dX7_hire_79, dX7_hire_80, dX7_hire_83, dX7_hire_84, dX7_hire_86, dX7_hire_89, dX7_hire_92, st_goto, dX7_hire_95, dX7_hire_96, dX7_hire_98, dX7_hire_100, dX7_hire_101, dX7_hire_104, dX7_hire_105, dX7_hire_106, dX7_hire_108, dX7_hire_110, dX7_hire_111, dX7_hire_112, dX7_hire_115, st_pop, dX7_hire_116, dX7_hire_117, dX7_hire_119, dX7_hire_121, dX7_hire_123, dX7_hire_126, dX7_hire_127, dX7_hire_128, dX7_hire_131, dX7_hire_132, dX7_hire_133, dX7_hire_136, st_ishl, dX7_hire_137, dX7_hire_138, st_isub, dX7_hire_139, dX7_hire_142, dX7_hire_143, dX7_hire_146, dX7_hire_147, st_iinc, dX7_hire_150, dX7_hire_153, dX7_hire_154, dX7_hire_156, st_putfield, dX7_hire_159, dX7_hire_160, dX7_hire_163, dX7_hire_165, dX7_hire_167, dX7_hire_170, dX7_hire_173, dX7_hire_174, dX7_hire_176, st_imul, dX7_hire_177, dX7_hire_179, st_iadd, dX7_hire_180, dX7_hire_181, dX7_hire_183, dX7_hire_185, dX7_hire_188, dX7_hire_191, dX7_hire_194, dX7_hire_197, dX7_hire_198, dX7_hire_199, dX7_hire_202, dX7_hire_203, dX7_hire_206, dX7_hire_207, dX7_hire_210, dX7_hire_211, dX7_hire_214, dX7_hire_216, c_X7_hire_161, pX7_isGait_e, fX7_isGait_e, Option.toList_some, Option.toList_none, List.cons_append, List.nil_append, c_X7_hire_164, pX7_noTen_e, fX7_noTen_e, c_X7_hire_290, pX7_begins_e, fX7_begins_e, c_X7_hire_177, pX7_isTaken_e, fX7_isTaken_e, c_X7_hire_170, pX7_adds_e, fX7_adds_e, c_X7_hire_299, pX7_having_e, fX7_having_e, c_X7_hire_284, pX7_beats1_e, fX7_beats1_e, c_X7_hire_296, pX7_backAgain_e, fX7_backAgain_e, ofI_m1, ofJ_1, ofI_m5, ofI_6, ofI_m7, ofI_101, ofI_0, ofI_49, ofI_4, hp1, hp2, hp3, xwp_s, xcu_s, xcu_n, xPc_e, xsub_0, xsub_n, xsub_s, k119, k98, kn, hcj, e0j, e1j, e1d, i1, gbM_k, hWk, n0, n6, hBj, gbM_s, hqZ_f]
              have e5 : hqP W g j = decide (hvM (gbM j W) g = xshl 1 (n + 1) - 1) := by unfold hqP; rw [hWk]
              have cont : hqP W g j = false → (∀ v, v < j + 1 → hqP W g v = false) := fun h2 => xall_s hH h2
              have fin : (¬ j < tn F.2.1 ∨ hqP W g j = true) → hqD g n p F d = (if nI j < F.2.1 then nI (4 * p + d) else F.1, if nI j < F.2.1 then nI j else F.2.1, hqZ W n j) := fun h => by
                have a1 : hqN W g F.2.1 = j := by
                  by_cases hl : j < tn F.2.1
                  · exact xfs_at hl (h.resolve_left (fun q => q hl)) hH
                  · have hj' : j = tn F.2.1 := by omega
                    rw [hqN, ← hj']
                    exact xfs_no hH
                have a2 : hqD g n p F d = (if nI (hqN (hqW F.2.2 g p d) g F.2.1) < F.2.1 then nI (4 * p + d) else F.1, if nI (hqN (hqW F.2.2 g p d) g F.2.1) < F.2.1 then nI (hqN (hqW F.2.2 g p d) g F.2.1) else F.2.1, hqZ (hqW F.2.2 g p d) n (hqN (hqW F.2.2 g p d) g F.2.1)) := rfl
                rw [a2, hW, a1]
              have hl2 : nI j < F.2.1 ↔ j < tn F.2.1 := nI_lt_tn hj
              have i4 : 4 * nI p + nI d = nI (4 * p + d) := by rw [show (4 : Int32) = nI 4 from rfl, pk_mul, nI_add]
              rw [i4]
              simp only [hl2] at fin ⊢
              clear ihj ih98 hcj hBj hW hl2 i4 hR2
              generalize hqD g n p F d = D at *
              generalize hqZ W n j = Z at *
              generalize hqP W g j = q at *
              generalize hvM (gbM j W) g = v at *
              clear k119 k98 kn hp3 hB
              repeat' (first | refine And.intro ?_ ?_ | intro _)
              all_goals grind (splits := 20)
            exact h119i 0 (Nat.zero_le _) (fun v hv => by omega)
          refine xtoCs [(98, xPc (d < 4) [some (.ref 0), some (.int g), some (.int x), some (.int (hqI g n p F0 (d + 1)).1), some (.int (hqI g n p F0 (d + 1)).2.1), some (.int n), some (.int (nI p)), some (.int (nI (d + 1))), none] ((hqI g n p F0 (d + 1)).2.2)), (65, xPc (True) [some (.ref 0), some (.int g), some (.int x), some (.int (hqO D σ g (p + 1)).1), some (.int (hqO D σ g (p + 1)).2.1), some (.int n), some (.int (nI (p + 1))), none, none] ((hqO D σ g (p + 1)).2.2)), (119, xPc (d < 4) [some (.ref 0), some (.int g), some (.int x), some (.int (hqI g n p F0 d).1), some (.int (hqI g n p F0 d).2.1), some (.int n), some (.int (nI p)), some (.int (nI d)), some (.int (nI 0))] (gbM 0 (hqW (hqI g n p F0 d).2.2 g p d)))] (xcs_cons (ihd) (xcs_cons (fun _ => ih65) (xcs_cons (fun q => h119 q) xcs_nil))) 26 (fun cf hcf => ?_)
          have k98 : cf 98 = some (xPc (d < 4) [some (.ref 0), some (.int g), some (.int x), some (.int (hqI g n p F0 (d + 1)).1), some (.int (hqI g n p F0 (d + 1)).2.1), some (.int n), some (.int (nI p)), some (.int (nI (d + 1))), none] ((hqI g n p F0 (d + 1)).2.2)) := (hcf 98).trans rfl
          have k65 : cf 65 = some (xPc (True) [some (.ref 0), some (.int g), some (.int x), some (.int (hqO D σ g (p + 1)).1), some (.int (hqO D σ g (p + 1)).2.1), some (.int n), some (.int (nI (p + 1))), none, none] ((hqO D σ g (p + 1)).2.2)) := (hcf 65).trans rfl
          have k119 : cf 119 = some (xPc (d < 4) [some (.ref 0), some (.int g), some (.int x), some (.int (hqI g n p F0 d).1), some (.int (hqI g n p F0 d).2.1), some (.int n), some (.int (nI p)), some (.int (nI d)), some (.int (nI 0))] (gbM 0 (hqW (hqI g n p F0 d).2.2 g p d))) := (hcf 119).trans rfl
          have kn : ∀ pc, ¬ pc = 98 → ¬ pc = 65 → ¬ pc = 119 → cf pc = none := fun pc h0 h1 h2 => by rw [hcf, xlk_c, if_neg h0, xlk_c, if_neg h1, xlk_c, if_neg h2, xlk_n]
          clear hcf
          simp (config := {maxSteps := 4000000, implicitDefEqProofs := false}) only [xwp_2, xwp_0, xwp_1, xws_s, xdd_o, xld_0, xld_s, xs1_0, xs1_1, xs1_s, xs2_0, xs2_1, xs2_s, xlg_n, xlg_i, xlg_r, xlg_z, xlg_l, xf4_0, xf4_1, xf4_2, xf4_3, xgo_e, xcmp_eq, xcmp_ne, xcmp_lt, xcmp_ge, xcmp_gt, xcmp_le, xfg_0, xfg_1, xfg_2, xfg_3, xfg_4, xpop_0, xpop_s, xsw_n, xsw_c, xtb_n, xtb_c, xenp_n, xenp_i, xenp_r, xenp_z, xenp_l, xrep_0, xrep_s, Nat.reduceSub, true_and, and_true, cat_i, cat_r, Nat.reduceAdd, Nat.reduceLT, Nat.reduceLeDiff, Nat.reduceEqDiff, xnc, Int.reduceAdd, Int.reduceSub, Int.reduceNeg, Int.reduceLE, Int.reduceLT, Int.reduceToNat, ↓reduceIte, List.length_cons, List.length_nil, xlc0, xlc1, ite_10, i10, i01, i0_2, i0_3, i0_4, i0_6, i0_7, i0_8, i0_49, i0_10, or_true, true_or, or_false, false_or, not_false_eq_true, not_true_eq_false, xnt, xI_g, eq_self, xI_2, xJ_1, false_and, and_false, obM_t, rMi, vp_tn, tn_def, lgc, nI8, nI6, nI160, nI20, nI401, nI49, aM_6, aM_7, aM_8, aM_9, aM_10, aM_11, aM_12, aM_13, aM_14, aM_15, aM_16, aM_17, aM_18, aM_19, aM_20, aM_21, aM_22, aM_23, aM_24, aM_25, aM_26, aM_27, aM_28, aM_29, aM_30, aM_31, aM_38, aM_39, aM_40, aM_41, aM_42, aM_43, aM_44, aM_45, aM_46, aM_47, lM_6, lM_7, lM_8, lM_9, lM_10, lM_11, lM_12, lM_13, lM_14, lM_15, lM_16, lM_17, lM_18, lM_19, lM_20, lM_21, lM_22, lM_23, lM_24, lM_25, lM_26, lM_27, lM_28, lM_29, lM_30, lM_31, lM_38, lM_39, lM_40, lM_41, lM_42, lM_43, lM_44, lM_45, lM_46, lM_47, dX7_hire_0, st_aload_n, dX7_hire_1, st_iload_n, dX7_hire_2, st_invokevirtual, dX7_hire_5, st_ifCond, dX7_hire_8, dX7_hire_9, st_iconst, dX7_hire_10, dX7_hire_13, st_ireturn, dX7_hire_14, dX7_hire_15, dX7_hire_18, dX7_hire_19, dX7_hire_20, st_if_icmp, dX7_hire_23, dX7_hire_24, st_bipush, dX7_hire_26, dX7_hire_29, dX7_hire_30, dX7_hire_31, st_getfield, fl_X7_126, dX7_hire_34, dX7_hire_36, dX7_hire_39, dX7_hire_40, dX7_hire_42, dX7_hire_45, dX7_hire_46, dX7_hire_47, st_istore_n, dX7_hire_48, dX7_hire_50, st_istore, dX7_hire_52, dX7_hire_53, dX7_hire_56, dX7_hire_58, dX7_hire_59, dX7_hire_62, dX7_hire_63, dX7_hire_65, st_iload, dX7_hire_67, dX7_hire_69, dX7_hire_72, dX7_hire_73, fl_X7_29, dX7_hire_76, dX7_hire_78, st_iaload, dX7_hire_79, dX7_hire_80, dX7_hire_83, dX7_hire_84, dX7_hire_86, dX7_hire_89, dX7_hire_92, st_goto, dX7_hire_95, dX7_hire_96, dX7_hire_98, dX7_hire_100, dX7_hire_101, dX7_hire_104, dX7_hire_105, dX7_hire_106, dX7_hire_108, dX7_hire_110, dX7_hire_111, dX7_hire_112, dX7_hire_115, st_pop, dX7_hire_116, dX7_hire_117, dX7_hire_119, dX7_hire_121, dX7_hire_123, dX7_hire_126, dX7_hire_127, dX7_hire_128, dX7_hire_131, dX7_hire_132, dX7_hire_133, dX7_hire_136, st_ishl, dX7_hire_137, dX7_hire_138, st_isub, dX7_hire_139, dX7_hire_142, dX7_hire_143, dX7_hire_146, dX7_hire_147, st_iinc, dX7_hire_150, dX7_hire_153, dX7_hire_154, dX7_hire_156, st_putfield, dX7_hire_159, dX7_hire_160, dX7_hire_163, dX7_hire_165, dX7_hire_167, dX7_hire_170, dX7_hire_173, dX7_hire_174, dX7_hire_176, st_imul, dX7_hire_177, dX7_hire_179, st_iadd, dX7_hire_180, dX7_hire_181, dX7_hire_183, dX7_hire_185, dX7_hire_188, dX7_hire_191, dX7_hire_194, dX7_hire_197, dX7_hire_198, dX7_hire_199, dX7_hire_202, dX7_hire_203, dX7_hire_206, dX7_hire_207, dX7_hire_210, dX7_hire_211, dX7_hire_214, dX7_hire_216, c_X7_hire_161, pX7_isGait_e, fX7_isGait_e, Option.toList_some, Option.toList_none, List.cons_append, List.nil_append, c_X7_hire_164, pX7_noTen_e, fX7_noTen_e, c_X7_hire_290, pX7_begins_e, fX7_begins_e, c_X7_hire_177, pX7_isTaken_e, fX7_isTaken_e, c_X7_hire_170, pX7_adds_e, fX7_adds_e, c_X7_hire_299, pX7_having_e, fX7_having_e, c_X7_hire_284, pX7_beats1_e, fX7_beats1_e, c_X7_hire_296, pX7_backAgain_e, fX7_backAgain_e, ofI_m1, ofJ_1, ofI_m5, ofI_6, ofI_m7, ofI_101, ofI_0, ofI_49, ofI_4, hp1, hp2, hp3, xwp_s, xcu_s, xcu_n, xPc_e, xsub_0, xsub_n, xsub_s, k98, k65, k119, kn, hcd, e1p, e1d, hk, hqW_f, n0', n6', nI_00, gbM_0]
          have hE : 4 ≤ d → hqI g n p F0 d = hqO D σ g (p + 1) := fun h => by rw [← hn4, show d = D by omega]
          have h8 : ¬ 4 ≤ d → d < 4 := fun h => by omega
          clear ih65 ihd h119 hcd hR2 hn4 hB
          generalize hqO D σ g (p + 1) = O1 at *
          generalize hqI g n p F0 d = F at *
          grind (splits := 40)
        have h2 := h98i 0 (Nat.zero_le _)
        exact h2
      refine xtoCs [(65, xPc (p < 49) [some (.ref 0), some (.int g), some (.int x), some (.int (hqO D σ g (p + 1)).1), some (.int (hqO D σ g (p + 1)).2.1), some (.int n), some (.int (nI (p + 1))), none, none] ((hqO D σ g (p + 1)).2.2)), (98, xPc (p < 49 ∧ ¬ ((hqO D σ g p).2.2.1 10 p = 1 ∨ itM (hqO D σ g p).2.2 (nI p) = true)) [some (.ref 0), some (.int g), some (.int x), some (.int (hqO D σ g p).1), some (.int (hqO D σ g p).2.1), some (.int n), some (.int (nI p)), some (.int (nI 0)), none] ((hqO D σ g p).2.2))] (xcs_cons (ih) (xcs_cons (fun q => h98 q.1 q.2) xcs_nil)) 40 (fun cf hcf => ?_)
      have k65 : cf 65 = some (xPc (p < 49) [some (.ref 0), some (.int g), some (.int x), some (.int (hqO D σ g (p + 1)).1), some (.int (hqO D σ g (p + 1)).2.1), some (.int n), some (.int (nI (p + 1))), none, none] ((hqO D σ g (p + 1)).2.2)) := (hcf 65).trans rfl
      have k98 : cf 98 = some (xPc (p < 49 ∧ ¬ ((hqO D σ g p).2.2.1 10 p = 1 ∨ itM (hqO D σ g p).2.2 (nI p) = true)) [some (.ref 0), some (.int g), some (.int x), some (.int (hqO D σ g p).1), some (.int (hqO D σ g p).2.1), some (.int n), some (.int (nI p)), some (.int (nI 0)), none] ((hqO D σ g p).2.2)) := (hcf 98).trans rfl
      have kn : ∀ pc, ¬ pc = 65 → ¬ pc = 98 → cf pc = none := fun pc h0 h1 => by rw [hcf, xlk_c, if_neg h0, xlk_c, if_neg h1, xlk_n]
      clear hcf
      simp (config := {maxSteps := 4000000, implicitDefEqProofs := false}) only [xwp_2, xwp_0, xwp_1, xws_s, xdd_o, xld_0, xld_s, xs1_0, xs1_1, xs1_s, xs2_0, xs2_1, xs2_s, xlg_n, xlg_i, xlg_r, xlg_z, xlg_l, xf4_0, xf4_1, xf4_2, xf4_3, xgo_e, xcmp_eq, xcmp_ne, xcmp_lt, xcmp_ge, xcmp_gt, xcmp_le, xfg_0, xfg_1, xfg_2, xfg_3, xfg_4, xpop_0, xpop_s, xsw_n, xsw_c, xtb_n, xtb_c, xenp_n, xenp_i, xenp_r, xenp_z, xenp_l, xrep_0, xrep_s, Nat.reduceSub, true_and, and_true, cat_i, cat_r, Nat.reduceAdd, Nat.reduceLT, Nat.reduceLeDiff, Nat.reduceEqDiff, xnc, Int.reduceAdd, Int.reduceSub, Int.reduceNeg, Int.reduceLE, Int.reduceLT, Int.reduceToNat, ↓reduceIte, List.length_cons, List.length_nil, xlc0, xlc1, ite_10, i10, i01, i0_2, i0_3, i0_4, i0_6, i0_7, i0_8, i0_49, i0_10, or_true, true_or, or_false, false_or, not_false_eq_true, not_true_eq_false, xnt, xI_g, eq_self, xI_2, xJ_1, false_and, and_false, obM_t, rMi, vp_tn, tn_def, lgc, nI8, nI6, nI160, nI20, nI401, nI49, aM_6, aM_7, aM_8, aM_9, aM_10, aM_11, aM_12, aM_13, aM_14, aM_15, aM_16, aM_17, aM_18, aM_19, aM_20, aM_21, aM_22, aM_23, aM_24, aM_25, aM_26, aM_27, aM_28, aM_29, aM_30, aM_31, aM_38, aM_39, aM_40, aM_41, aM_42, aM_43, aM_44, aM_45, aM_46, aM_47, lM_6, lM_7, lM_8, lM_9, lM_10, lM_11, lM_12, lM_13, lM_14, lM_15, lM_16, lM_17, lM_18, lM_19, lM_20, lM_21, lM_22, lM_23, lM_24, lM_25, lM_26, lM_27, lM_28, lM_29, lM_30, lM_31, lM_38, lM_39, lM_40, lM_41, lM_42, lM_43, lM_44, lM_45, lM_46, lM_47, dX7_hire_0, st_aload_n, dX7_hire_1, st_iload_n, dX7_hire_2, st_invokevirtual, dX7_hire_5, st_ifCond, dX7_hire_8, dX7_hire_9, st_iconst, dX7_hire_10, dX7_hire_13, st_ireturn, dX7_hire_14, dX7_hire_15, dX7_hire_18, dX7_hire_19, dX7_hire_20, st_if_icmp, dX7_hire_23, dX7_hire_24, st_bipush, dX7_hire_26, dX7_hire_29, dX7_hire_30, dX7_hire_31, st_getfield, fl_X7_126, dX7_hire_34, dX7_hire_36, dX7_hire_39, dX7_hire_40, dX7_hire_42, dX7_hire_45, dX7_hire_46, dX7_hire_47, st_istore_n, dX7_hire_48, dX7_hire_50, st_istore, dX7_hire_52, dX7_hire_53, dX7_hire_56, dX7_hire_58, dX7_hire_59, dX7_hire_62, dX7_hire_63, dX7_hire_65, st_iload, dX7_hire_67, dX7_hire_69, dX7_hire_72, dX7_hire_73, fl_X7_29, dX7_hire_76, dX7_hire_78, st_iaload, dX7_hire_79, dX7_hire_80, dX7_hire_83, dX7_hire_84, dX7_hire_86, dX7_hire_89, dX7_hire_92, st_goto, dX7_hire_95, dX7_hire_96, dX7_hire_98, dX7_hire_100, dX7_hire_101, dX7_hire_104, dX7_hire_105, dX7_hire_106, dX7_hire_108, dX7_hire_110, dX7_hire_111, dX7_hire_112, dX7_hire_115, st_pop, dX7_hire_116, dX7_hire_117, dX7_hire_119, dX7_hire_121, dX7_hire_123, dX7_hire_126, dX7_hire_127, dX7_hire_128, dX7_hire_131, dX7_hire_132, dX7_hire_133, dX7_hire_136, st_ishl, dX7_hire_137, dX7_hire_138, st_isub, dX7_hire_139, dX7_hire_142, dX7_hire_143, dX7_hire_146, dX7_hire_147, st_iinc, dX7_hire_150, dX7_hire_153, dX7_hire_154, dX7_hire_156, st_putfield, dX7_hire_159, dX7_hire_160, dX7_hire_163, dX7_hire_165, dX7_hire_167, dX7_hire_170, dX7_hire_173, dX7_hire_174, dX7_hire_176, st_imul, dX7_hire_177, dX7_hire_179, st_iadd, dX7_hire_180, dX7_hire_181, dX7_hire_183, dX7_hire_185, dX7_hire_188, dX7_hire_191, dX7_hire_194, dX7_hire_197, dX7_hire_198, dX7_hire_199, dX7_hire_202, dX7_hire_203, dX7_hire_206, dX7_hire_207, dX7_hire_210, dX7_hire_211, dX7_hire_214, dX7_hire_216, c_X7_hire_161, pX7_isGait_e, fX7_isGait_e, Option.toList_some, Option.toList_none, List.cons_append, List.nil_append, c_X7_hire_164, pX7_noTen_e, fX7_noTen_e, c_X7_hire_290, pX7_begins_e, fX7_begins_e, c_X7_hire_177, pX7_isTaken_e, fX7_isTaken_e, c_X7_hire_170, pX7_adds_e, fX7_adds_e, c_X7_hire_299, pX7_having_e, fX7_having_e, c_X7_hire_284, pX7_beats1_e, fX7_beats1_e, c_X7_hire_296, pX7_backAgain_e, fX7_backAgain_e, ofI_m1, ofJ_1, ofI_m5, ofI_6, ofI_m7, ofI_101, ofI_0, ofI_49, ofI_4, hp1, hp2, hp3, xwp_s, xcu_s, xcu_n, xPc_e, xsub_0, xsub_n, xsub_s, k65, k98, kn, hcp, e0p, e1p, e2p, hk1, n0, n6, hn0, hn6]
      have hE : 49 ≤ p → hqO D σ g p = hqO D σ g M := fun h => by rw [show p = M by omega]
      have h8 : ¬ 49 ≤ p → p < 49 := fun h => by omega
      have hsk : ((hqO D σ g p).2.2.1 10 p = 1 ∨ itM (hqO D σ g p).2.2 (nI p) = true) → hqO D σ g (p + 1) = hqO D σ g p := fun h => by rw [hqO_s, hqQ, if_pos h]
      have hqRe : hqR (hqO D σ g M) x = (if (hqO D σ g M).1 = -1 then -1 else if x = 0 then (hqO D σ g M).1 else (hqO D σ g M).2.1, (hqO D σ g M).2.2) := rfl
      simp only [nI_00]
      rw [hqRe] at hR2
      simp only [hR2]
      clear ih h98 hcp hR2 hH hqRe
      generalize itM (hqO D σ g p).2.2 (nI p) = it at *
      generalize hqO D σ g (p + 1) = O1 at *
      generalize hqO D σ g M = O2 at *
      generalize hqO D σ g p = O at *
      grind (splits := 60)
    exact h65 0 (Nat.zero_le _)
  have z1 : (hqO D σ g 0).1 = -1 := rfl
  have z2 : (hqO D σ g 0).2.1 = 101 := rfl
  have z3 : (hqO D σ g 0).2.2 = bgM σ := rfl
  refine xtoC [(65, xPc ((0 ≤ g ∧ g < σ.1 0 0) ∧ ¬ (x < 0 ∨ 1 < x) ∧ ¬ σ.1 0 1 = 6) [some (.ref 0), some (.int g), some (.int x), some (.int (hqO D σ g 0).1), some (.int (hqO D σ g 0).2.1), some (.int (σ.1 0 1)), some (.int (nI 0)), none, none] ((hqO D σ g 0).2.2))] (xcs_cons (h65) xcs_nil) 36 (fun cf hcf => ?_)
  have k65 : cf 65 = some (xPc ((0 ≤ g ∧ g < σ.1 0 0) ∧ ¬ (x < 0 ∨ 1 < x) ∧ ¬ σ.1 0 1 = 6) [some (.ref 0), some (.int g), some (.int x), some (.int (hqO D σ g 0).1), some (.int (hqO D σ g 0).2.1), some (.int (σ.1 0 1)), some (.int (nI 0)), none, none] ((hqO D σ g 0).2.2)) := (hcf 65).trans rfl
  have kn : ∀ pc, ¬ pc = 65 → cf pc = none := fun pc h0 => by rw [hcf, xlk_c, if_neg h0, xlk_n]
  clear hcf
  simp (config := {maxSteps := 4000000, implicitDefEqProofs := false}) only [xwp_2, xwp_0, xwp_1, xws_s, xdd_o, xld_0, xld_s, xs1_0, xs1_1, xs1_s, xs2_0, xs2_1, xs2_s, xlg_n, xlg_i, xlg_r, xlg_z, xlg_l, xf4_0, xf4_1, xf4_2, xf4_3, xgo_e, xcmp_eq, xcmp_ne, xcmp_lt, xcmp_ge, xcmp_gt, xcmp_le, xfg_0, xfg_1, xfg_2, xfg_3, xfg_4, xpop_0, xpop_s, xsw_n, xsw_c, xtb_n, xtb_c, xenp_n, xenp_i, xenp_r, xenp_z, xenp_l, xrep_0, xrep_s, Nat.reduceSub, true_and, and_true, cat_i, cat_r, Nat.reduceAdd, Nat.reduceLT, Nat.reduceLeDiff, Nat.reduceEqDiff, xnc, Int.reduceAdd, Int.reduceSub, Int.reduceNeg, Int.reduceLE, Int.reduceLT, Int.reduceToNat, ↓reduceIte, List.length_cons, List.length_nil, xlc0, xlc1, ite_10, i10, i01, i0_2, i0_3, i0_4, i0_6, i0_7, i0_8, i0_49, i0_10, or_true, true_or, or_false, false_or, not_false_eq_true, not_true_eq_false, xnt, xI_g, eq_self, xI_2, xJ_1, false_and, and_false, obM_t, rMi, vp_tn, tn_def, lgc, nI8, nI6, nI160, nI20, nI401, nI49, aM_6, aM_7, aM_8, aM_9, aM_10, aM_11, aM_12, aM_13, aM_14, aM_15, aM_16, aM_17, aM_18, aM_19, aM_20, aM_21, aM_22, aM_23, aM_24, aM_25, aM_26, aM_27, aM_28, aM_29, aM_30, aM_31, aM_38, aM_39, aM_40, aM_41, aM_42, aM_43, aM_44, aM_45, aM_46, aM_47, lM_6, lM_7, lM_8, lM_9, lM_10, lM_11, lM_12, lM_13, lM_14, lM_15, lM_16, lM_17, lM_18, lM_19, lM_20, lM_21, lM_22, lM_23, lM_24, lM_25, lM_26, lM_27, lM_28, lM_29, lM_30, lM_31, lM_38, lM_39, lM_40, lM_41, lM_42, lM_43, lM_44, lM_45, lM_46, lM_47, dX7_hire_0, st_aload_n, dX7_hire_1, st_iload_n, dX7_hire_2, st_invokevirtual, dX7_hire_5, st_ifCond, dX7_hire_8, dX7_hire_9, st_iconst, dX7_hire_10, dX7_hire_13, st_ireturn, dX7_hire_14, dX7_hire_15, dX7_hire_18, dX7_hire_19, dX7_hire_20, st_if_icmp, dX7_hire_23, dX7_hire_24, st_bipush, dX7_hire_26, dX7_hire_29, dX7_hire_30, dX7_hire_31, st_getfield, fl_X7_126, dX7_hire_34, dX7_hire_36, dX7_hire_39, dX7_hire_40, dX7_hire_42, dX7_hire_45, dX7_hire_46, dX7_hire_47, st_istore_n, dX7_hire_48, dX7_hire_50, st_istore, dX7_hire_52, dX7_hire_53, dX7_hire_56, dX7_hire_58, dX7_hire_59, dX7_hire_62, dX7_hire_63, dX7_hire_65, st_iload, dX7_hire_67, dX7_hire_69, dX7_hire_72, dX7_hire_73, fl_X7_29, dX7_hire_76, dX7_hire_78, st_iaload, dX7_hire_79, dX7_hire_80, dX7_hire_83, dX7_hire_84, dX7_hire_86, dX7_hire_89, dX7_hire_92, st_goto, dX7_hire_95, dX7_hire_96, dX7_hire_98, dX7_hire_100, dX7_hire_101, dX7_hire_104, dX7_hire_105, dX7_hire_106, dX7_hire_108, dX7_hire_110, dX7_hire_111, dX7_hire_112, dX7_hire_115, st_pop, dX7_hire_116, dX7_hire_117, dX7_hire_119, dX7_hire_121, dX7_hire_123, dX7_hire_126, dX7_hire_127, dX7_hire_128, dX7_hire_131, dX7_hire_132, dX7_hire_133, dX7_hire_136, st_ishl, dX7_hire_137, dX7_hire_138, st_isub, dX7_hire_139, dX7_hire_142, dX7_hire_143, dX7_hire_146, dX7_hire_147, st_iinc, dX7_hire_150, dX7_hire_153, dX7_hire_154, dX7_hire_156, st_putfield, dX7_hire_159, dX7_hire_160, dX7_hire_163, dX7_hire_165, dX7_hire_167, dX7_hire_170, dX7_hire_173, dX7_hire_174, dX7_hire_176, st_imul, dX7_hire_177, dX7_hire_179, st_iadd, dX7_hire_180, dX7_hire_181, dX7_hire_183, dX7_hire_185, dX7_hire_188, dX7_hire_191, dX7_hire_194, dX7_hire_197, dX7_hire_198, dX7_hire_199, dX7_hire_202, dX7_hire_203, dX7_hire_206, dX7_hire_207, dX7_hire_210, dX7_hire_211, dX7_hire_214, dX7_hire_216, c_X7_hire_161, pX7_isGait_e, fX7_isGait_e, Option.toList_some, Option.toList_none, List.cons_append, List.nil_append, c_X7_hire_164, pX7_noTen_e, fX7_noTen_e, c_X7_hire_290, pX7_begins_e, fX7_begins_e, c_X7_hire_177, pX7_isTaken_e, fX7_isTaken_e, c_X7_hire_170, pX7_adds_e, fX7_adds_e, c_X7_hire_299, pX7_having_e, fX7_having_e, c_X7_hire_284, pX7_beats1_e, fX7_beats1_e, c_X7_hire_296, pX7_backAgain_e, fX7_backAgain_e, ofI_m1, ofJ_1, ofI_m5, ofI_6, ofI_m7, ofI_101, ofI_0, ofI_49, ofI_4, hp1, hp2, hp3, xwp_s, xcu_s, xcu_n, xPc_e, xsub_0, xsub_n, xsub_s, k65, kn, nI_00, z1, z2, z3, nbP_1, nbP_2, nbP_3, nbP_4, nbP_5, nbP_6, nbP_7]
  simp only [hR2, ntM]
  clear hR2 h65 hp3
  generalize hqR (hqO D σ g M) x = RR at *
  grind (splits := 40)
theorem rX7_hire : ∀ as σ, pX7_hire as σ → ∃ K as', as = .ref K :: as' ∧ xob WM K 7 := by
  rintro as σ ⟨g, x, rfl, hpre⟩
  exact ⟨_, _, rfl, by first | exact hpre | exact hpre.1 | exact obT hpre | exact obT hpre.1 | exact obS hpre | exact obS hpre.1 | exact obM | exact ob6 | exact ob2 | exact ob0⟩
