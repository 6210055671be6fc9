/-! WHAT THE STATEMENT GIVES OF THE START -/
abbrev gvn : Cond := Jvm.Cond.and given_1 narrow_1
set_option maxRecDepth 200000 in
theorem n_A1 : (Cond.arrayOf (.static RX0 "ABOVE" "[I") .int) ∈ flatC gvn := by decide +kernel
set_option maxRecDepth 200000 in
theorem n_A2 : (Cond.eq (.length (.static RX0 "ABOVE" "[I")) (.int (Int32.ofNat 7))) ∈ flatC gvn := by decide +kernel
set_option maxRecDepth 200000 in
theorem n_A3 : ∀ j, j < 7 → (Cond.eq (.elem (.static RX0 "ABOVE" "[I") (.int (Int32.ofNat j))) (.int (xAb j))) ∈ flatC gvn := by decide +kernel
set_option maxRecDepth 200000 in
theorem n_B1 : (Cond.arrayOf (.static RX0 "BODIES" "[I") .int) ∈ flatC gvn := by decide +kernel
set_option maxRecDepth 200000 in
theorem n_B2 : (Cond.eq (.length (.static RX0 "BODIES" "[I")) (.int (Int32.ofNat 21))) ∈ flatC gvn := by decide +kernel
set_option maxRecDepth 200000 in
theorem n_B3 : ∀ j, j < 21 → (Cond.eq (.elem (.static RX0 "BODIES" "[I") (.int (Int32.ofNat j))) (.int (xBo j))) ∈ flatC gvn := by decide +kernel
set_option maxRecDepth 200000 in
theorem n_C : (Cond.eq (.static RJ0 "COMPACT_STRINGS" "Z") (.int 1)) ∈ flatC gvn := by decide +kernel
set_option maxRecDepth 200000 in
theorem n_P : (Cond.isRef (.static RJ3 "SIOOBE_FORMATTER" "Ljava/util/function/BiFunction;")) ∈ flatC gvn := by decide +kernel
abbrev tmS (i : Nat) : Term := .string RX2 (81 + 2 * i)
set_option maxRecDepth 200000 in
theorem n_S1 : ∀ i, i < 5 → (Cond.exactly (tmS i) "java/lang/String") ∈ flatC gvn := by decide +kernel
set_option maxRecDepth 200000 in
theorem n_S2 : ∀ i, i < 5 → (Cond.eq (.field (tmS i) "java/lang/String" "coder" "B") (.int 0)) ∈ flatC gvn := by decide +kernel
set_option maxRecDepth 200000 in
theorem n_S3 : ∀ i, i < 5 → (Cond.arrayOf (.field (tmS i) "java/lang/String" "value" "[B") .byte) ∈ flatC gvn := by decide +kernel
set_option maxRecDepth 200000 in
theorem n_S4 : ∀ i, i < 5 → (Cond.eq (.length (.field (tmS i) "java/lang/String" "value" "[B")) (.int (Int32.ofNat (xlen.getD i 0)))) ∈ flatC gvn := by decide +kernel
set_option maxRecDepth 200000 in
theorem n_S5 : ∀ i, i < 5 → ∀ j, j < xlen.getD i 0 → (Cond.eq (.elem (.field (tmS i) "java/lang/String" "value" "[B") (.int (Int32.ofNat j))) (.int ((xbyt.getD i []).getD j 0))) ∈ flatC gvn := by decide +kernel
set_option maxRecDepth 200000 in
theorem n_S6 : ∀ i, i < 5 → ∀ j, j < 5 → i ≠ j → (Cond.not (Cond.eq (tmS i) (tmS j))) ∈ flatC gvn ∨ (Cond.not (Cond.eq (tmS j) (tmS i))) ∈ flatC gvn := by decide +kernel
set_option maxRecDepth 200000 in
theorem t_Z : ∀ w ∈ [Jvm.Cond.laysStatic RX0 "ABOVE" "[I", .laysStatic RX0 "BODIES" "[I", .initialized RX0, .laysStatic RJ0 "COMPACT_STRINGS" "Z", .initialized RJ0, .laysStatic RJ3 "SIOOBE_FORMATTER" "Ljava/util/function/BiFunction;", .initialized RJ3, .fieldLinkNest RX4 179 RX5 "gaitAhead" "I" RX6, .fieldLinkNest RX4 185 RX5 "wayAhead" "I" RX6, .methodLinkNest RX6 37 yX0_init RX6, .methodLinkNest RX6 61 yX3_init RX6, .methodLinkNest RX4 43 yX1_init RX6, .methodLinkNest RX4 48 yX5_init RX6, .arrayOver (.object RX3), .arrayOver (.object RX1), .arrayOver (.object RX5), .arrayClass .int, .arrayClass .long, .methodLinkNest RX6 30 yX2_init RX6], w ∈ lw_tbl := by decide +kernel
set_option maxRecDepth 200000 in
theorem t_R : ∀ i, i < 5 → (Jvm.Cond.stringRef RX2 (81 + 2 * i) (xtx i)) ∈ lw_tbl := by decide +kernel
set_option maxRecDepth 200000 in
theorem t_I : ∀ w ∈ [Jvm.Cond.instantiable RX0 5, .instantiable RX1 3, .instantiable RX2 6, .instantiable RX3 3, .instantiable RX4 10, .instantiable RX5 12, .instantiable RX6 11, .instantiable RX7 50], w ∈ lw_tbl := by decide +kernel
theorem t_i {ci : Nat} (h : ci < 8) : Jvm.Cond.instantiable (xNm ci) (xNf ci) ∈ lw_tbl := by
  match ci, h with
  | 0, _ => exact t_I _ (List.mem_of_getElem? (i := 0) rfl)
  | 1, _ => exact t_I _ (List.mem_of_getElem? (i := 1) rfl)
  | 2, _ => exact t_I _ (List.mem_of_getElem? (i := 2) rfl)
  | 3, _ => exact t_I _ (List.mem_of_getElem? (i := 3) rfl)
  | 4, _ => exact t_I _ (List.mem_of_getElem? (i := 4) rfl)
  | 5, _ => exact t_I _ (List.mem_of_getElem? (i := 5) rfl)
  | 6, _ => exact t_I _ (List.mem_of_getElem? (i := 6) rfl)
  | 7, _ => exact t_I _ (List.mem_of_getElem? (i := 7) rfl)
theorem ar_p {args : Array Value} {s : State} {t : FieldType} (ht : t = .int ∨ t = .long) (h : (Cond.arrayClass t).before args s = true) : ∃ cA, ArrOfT s cA t ∧ va_RA s cA t := by
  obtain ⟨cA, kA, comp, h1, h2, h3⟩ := Cond.arrayClass_spec h
  refine ⟨cA, fun n z => ⟨(fun k h => by cases h), kA, h2, comp, h3⟩, ?_⟩
  rcases ht with rfl | rfl <;> exact h1
theorem ar_o {args : Array Value} {s : State} {C : String} (h : (Cond.arrayOver (.object C)).before args s = true) : ∃ cA, ArrOfT s cA (.object C) ∧ va_RA s cA (.object C) := by
  obtain ⟨comp, cA, kA, h1, -, h2, h3, h4⟩ := Cond.arrayOver_spec h
  exact ⟨cA, fun n z => ⟨(fun k h => by cases h), kA, h2, comp, h3⟩, kA, comp, h2, h3, h1, h4⟩
theorem law_K {b : Nat} {s : State} (hts : ∀ w ∈ lw_tbl, w.before #[Value.ref b] s = true) : ∃ (D : va_G) (ca : Nat → ClassId), va_K D vwCl (xtys ca) s := by
  have h0 : ∀ ci : Nat, ∃ q : ClassId × (Nat → Nat), ci < 8 → u_Kn s (xNm ci) (xTT ci) (xNf ci) q.1 q.2 := by
    intro ci
    by_cases h : ci < 8
    · obtain ⟨cC, iS, hk⟩ := u_known (ws := xBig) (fun w hw => hts w (xBig_tbl hw)) (xIn h) (hts _ (t_i h))
      exact ⟨(cC, iS), fun _ => hk⟩
    · exact ⟨(default, fun _ => 0), fun q => absurd q h⟩
  obtain ⟨f, hf⟩ := Classical.axiomOfChoice h0
  obtain ⟨c0, h00, h01⟩ := ar_p (Or.inl rfl) (hts _ (t_Z _ (List.mem_of_getElem? (i := 16) rfl)))
  obtain ⟨c1, h10, h11⟩ := ar_p (Or.inr rfl) (hts _ (t_Z _ (List.mem_of_getElem? (i := 17) rfl)))
  obtain ⟨c2, h20, h21⟩ := ar_o (hts _ (t_Z _ (List.mem_of_getElem? (i := 13) rfl)))
  obtain ⟨c3, h30, h31⟩ := ar_o (hts _ (t_Z _ (List.mem_of_getElem? (i := 14) rfl)))
  obtain ⟨c4, h40, h41⟩ := ar_o (hts _ (t_Z _ (List.mem_of_getElem? (i := 15) rfl)))
  refine ⟨(fun c => (f c).1, fun c => (f c).2), fun k => match k with | 0 => c0 | 1 => c1 | 2 => c2 | 3 => c3 | _ => c4, fun c q hq => ?_, fun k q hk => ?_⟩
  · have hc : c < 8 := (List.getElem?_eq_some_iff.mp hq).1
    rw [xcl hc] at hq
    cases hq
    exact hf c hc
  · match k, hk with
    | 0, hk => cases hk; exact ⟨h00, h01⟩
    | 1, hk => cases hk; exact ⟨h10, h11⟩
    | 2, hk => cases hk; exact ⟨h20, h21⟩
    | 3, hk => cases hk; exact ⟨h30, h31⟩
    | 4, hk => cases hk; exact ⟨h40, h41⟩
    | k + 5, hk => simp at hk
theorem law_F {b : Nat} {s : State} (hts : ∀ w ∈ lw_tbl, w.before #[Value.ref b] s = true) : cF s :=
  ⟨⟨⟨va_Nw.of rfl (hts _ (t_Z _ (List.mem_of_getElem? (i := 9) rfl))), va_Nw.of rfl (hts _ (t_Z _ (List.mem_of_getElem? (i := 10) rfl))), va_Nw.of rfl (hts _ (t_Z _ (List.mem_of_getElem? (i := 18) rfl)))⟩, va_Nw.of rfl (hts _ (t_Z _ (List.mem_of_getElem? (i := 11) rfl))), va_Nw.of rfl (hts _ (t_Z _ (List.mem_of_getElem? (i := 12) rfl)))⟩, va_AO.of (hts _ (t_Z _ (List.mem_of_getElem? (i := 13) rfl))), va_AO.of (hts _ (t_Z _ (List.mem_of_getElem? (i := 14) rfl))), va_AO.of (hts _ (t_Z _ (List.mem_of_getElem? (i := 15) rfl)))⟩
theorem vk_S_congr {N : Nat} {len : List Nat} {byt : List (List Int32)} {f g f' g' : Nat → Nat} {A : Nat → Prop} {U : State} {H : Heap} (h : vk_S N len byt f g A U H) (hf : ∀ i, i < N → f' i = f i) (hg : ∀ i, i < N → g' i = g i) : vk_S N len byt f' g' A U H := by
  obtain ⟨h1, h2⟩ := h
  refine ⟨fun i hi => ?_, fun i j hi hj e => h2 i j hi hj ?_⟩
  · rw [hf i hi, hg i hi]
    exact h1 i hi
  · rw [← hf i hi, ← hf j hj]
    exact e
theorem law_S {b : Nat} {s : State} {A : Nat → Prop} (hts : ∀ w ∈ lw_tbl, w.before #[Value.ref b] s = true) (hgv : gvn.before #[Value.ref b] s = true) (hA : ∀ a : Nat, a < s.heap.size → ¬ A a) : ∃ aS : Nat → Nat, ∀ aX : Nat → Nat, (∀ K, 900 ≤ K → aX K = aS K) → xX aX A s s.heap := by
  have hs := flat_of_before _ hgv
  obtain ⟨tA, eA, hTA⟩ := va_Tof (f := fun j => .int (xAb j)) (A := A) (by decide) (hs _ n_A1) (va_eqt (hs _ n_A2)) (fun j hj => va_eqt (hs _ (n_A3 j hj))) hA
  obtain ⟨tB, eB, hTB⟩ := va_Tof (f := fun j => .int (xBo j)) (A := A) (by decide) (hs _ n_B1) (va_eqt (hs _ n_B2)) (fun j hj => va_eqt (hs _ (n_B3 j hj))) hA
  have zA := va_Zref (A := A) (hts _ (t_Z _ (List.mem_of_getElem? (i := 0) rfl))) (hts _ (t_Z _ (List.mem_of_getElem? (i := 2) rfl))) eA hA
  have zB := va_Zref (A := A) (hts _ (t_Z _ (List.mem_of_getElem? (i := 1) rfl))) (hts _ (t_Z _ (List.mem_of_getElem? (i := 2) rfl))) eB hA
  obtain ⟨adK, adV, hvs, hke⟩ := vk_Sof (N := 5) (tm := tmS) (len := xlen) (byt := xbyt) (A := A) (by decide) (fun i hi => hs _ (n_S1 i hi)) (fun i hi => hs _ (n_S2 i hi)) (fun i hi => hs _ (n_S3 i hi)) (fun i hi => hs _ (n_S4 i hi)) (fun i hi j hj => hs _ (n_S5 i hi j hj)) (fun i j hi hj hij => (n_S6 i hi j hj hij).imp (fun q => hs _ q) (fun q => hs _ q)) hA
  have zC := va_Zof (A := A) (hts _ (t_Z _ (List.mem_of_getElem? (i := 3) rfl))) (hts _ (t_Z _ (List.mem_of_getElem? (i := 4) rfl))) (va_eqt (hs _ n_C)) hA
  have zP := va_Zqof (A := A) (hts _ (t_Z _ (List.mem_of_getElem? (i := 5) rfl))) (hts _ (t_Z _ (List.mem_of_getElem? (i := 6) rfl))) (hs _ n_P) hA
  obtain ⟨tP, hP⟩ : ∃ tP : Nat, va_Z RJ3 "SIOOBE_FORMATTER" "Ljava/util/function/BiFunction;" .null A s s.heap ∨ va_Z RJ3 "SIOOBE_FORMATTER" "Ljava/util/function/BiFunction;" (.ref tP) A s s.heap := by
    rcases zP with h | ⟨t, h⟩
    · exact ⟨0, Or.inl h⟩
    · exact ⟨t, Or.inr h⟩
  refine ⟨fun K => if K = 900 then tA else if K = 901 then tB else if K < 920 then adK (K - 910) else if K < 930 then adV (K - 920) else tP, fun aX hX => ?_⟩
  have e0 : aX 900 = tA := by rw [hX 900 (by omega)]; rfl
  have e1 : aX 901 = tB := by rw [hX 901 (by omega)]; rfl
  have e3 : aX 930 = tP := by rw [hX 930 (by omega)]; rfl
  have eK : ∀ i, i < 5 → aX (910 + i) = adK i := fun i hi => by
    rw [hX (910 + i) (by omega)]
    dsimp only
    rw [if_neg (by omega), if_neg (by omega), if_pos (by omega), Nat.add_sub_cancel_left]
  have eV : ∀ i, i < 5 → aX (920 + i) = adV i := fun i hi => by
    rw [hX (920 + i) (by omega)]
    dsimp only
    rw [if_neg (by omega), if_neg (by omega), if_neg (by omega), if_pos (by omega), Nat.add_sub_cancel_left]
  refine ⟨⟨?_, ?_⟩, ⟨?_, ?_⟩, vk_S_congr hvs eK eV, fun i hi => ?_, zC, ?_, va_Nw.of rfl (hts _ (t_Z _ (List.mem_of_getElem? (i := 7) rfl))), va_Nw.of rfl (hts _ (t_Z _ (List.mem_of_getElem? (i := 8) rfl)))⟩
  · rw [e0]; exact zA
  · rw [e0]; exact hTA
  · rw [e1]; exact zB
  · rw [e1]; exact hTB
  · rw [eK i hi]
    exact vk_R.of (hts _ (t_R i hi)) (hke i hi)
  · rw [e3]; exact hP
