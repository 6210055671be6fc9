/-! hire: what is kept while places are tried -/
def HQ (N : Nat) (τ U : xS) : Prop := (∀ a c, a < 13 ∨ (22 < a ∧ a < 40) ∨ 44 < a → ¬ ((a = 11 ∨ a = 12) ∧ c = N) → U.1 a c = τ.1 a c) ∧ (∀ w, w < 6 → (U.1 13 w = τ.1 13 w ∧ U.1 14 w = τ.1 14 w ∧ U.1 15 w = τ.1 15 w ∧ U.1 16 w = τ.1 16 w ∧ U.1 17 w = τ.1 17 w) ∧ (U.1 18 w = τ.1 13 w ∧ U.1 19 w = τ.1 14 w ∧ U.1 20 w = τ.1 15 w ∧ U.1 21 w = τ.1 16 w ∧ U.1 22 w = τ.1 17 w)) ∧ U.2 = τ.2
theorem HQ_0 {N : Nat} {τ : xS} : HQ N τ (bgM τ) := by
  refine ⟨fun a c q _ => bgM_o (by omega), fun w hw => ⟨?_, bgM_c hw⟩, rfl⟩
  exact ⟨bgM_o (by omega), bgM_o (by omega), bgM_o (by omega), bgM_o (by omega), bgM_o (by omega)⟩
theorem hqW_o {N p d a c : Nat} {g : Int32} {U : xS} (h1 : U.1 0 1 = nI N) (hN : N < 6) (h : (a < 11 ∨ 17 < a) ∨ c ≠ N) (h2 : a ≠ 0 ∨ c ≠ 1) : (hqW U g p d).1 a c = U.1 a c := adM_o (by rw [h1, tn_nI (by omega)]; exact h) h2
theorem hqZ_o {N p d j a c : Nat} {g n : Int32} {U : xS} (h1 : U.1 0 1 = nI N) (hN : N < 6) (h : a < 11 ∨ (17 < a ∧ a < 40) ∨ 44 < a ∨ ((a = 11 ∨ a = 12) ∧ c ≠ N)) (h2 : a ≠ 0 ∨ c ≠ 1) : (hqZ (hqW U g p d) n j).1 a c = U.1 a c := by
  unfold hqZ
  rw [baM_o (by omega), xI_n (by omega), gbM_o (by omega), hqW_o h1 hN (by omega) h2]
theorem HQ_1 {N : Nat} {τ U : xS} (hτ : τ.1 0 1 = nI N) (h : HQ N τ U) : U.1 0 1 = nI N := (h.1 0 1 (by omega) (by omega)).trans hτ
theorem HQ_Z {N p d j : Nat} {g : Int32} {τ U : xS} (hτ : τ.1 0 1 = nI N) (hN : N < 6) (h : HQ N τ U) : HQ N τ (hqZ (hqW U g p d) (nI N) j) := by
  have h1 := HQ_1 hτ h
  have hs : ∀ a c, 17 < a → a < 40 → (hqZ (hqW U g p d) (nI N) j).1 a c = U.1 a c := fun a c q1 q2 => hqZ_o h1 hN (by omega) (by omega)
  refine ⟨fun a c q q2 => ?_, fun w hw => ?_, ?_⟩
  · by_cases e : a = 0 ∧ c = 1
    · obtain ⟨rfl, rfl⟩ := e
      rw [hqZ_1]; exact hτ.symm
    · rw [hqZ_o h1 hN (by omega) (by omega)]
      exact h.1 a c q q2
  · obtain ⟨-, s1, s2, s3, s4, s5⟩ := h.2.1 w hw
    have hb := baM_c (X := xI (gbM j (hqW U g p d)) 0 1 (nI N)) hw
    have ho : ∀ a, 17 < a → a < 23 → (xI (gbM j (hqW U g p d)) 0 1 (nI N)).1 a w = U.1 a w := fun a q1 q2 => by rw [xI_n (by omega), gbM_o (by omega), hqW_o h1 hN (by omega) (by omega)]
    refine ⟨⟨?_, ?_, ?_, ?_, ?_⟩, ?_, ?_, ?_, ?_, ?_⟩
    · exact hb.1.trans ((ho 18 (by omega) (by omega)).trans s1)
    · exact hb.2.1.trans ((ho 19 (by omega) (by omega)).trans s2)
    · exact hb.2.2.1.trans ((ho 20 (by omega) (by omega)).trans s3)
    · exact hb.2.2.2.1.trans ((ho 21 (by omega) (by omega)).trans s4)
    · exact hb.2.2.2.2.trans ((ho 22 (by omega) (by omega)).trans s5)
    · rw [hs _ _ (by omega) (by omega)]; exact s1
    · rw [hs _ _ (by omega) (by omega)]; exact s2
    · rw [hs _ _ (by omega) (by omega)]; exact s3
    · rw [hs _ _ (by omega) (by omega)]; exact s4
    · rw [hs _ _ (by omega) (by omega)]; exact s5
  · unfold hqZ
    show (gbM j (hqW U g p d)).2 = τ.2
    rw [gbM_2]
    exact h.2.2
theorem HQ_MFr {N : Nat} {τ U : xS} (hN : N ≤ 6) (h : HQ N τ U) : MFr N τ U := by
  refine ⟨fun c q => h.1 0 c (by omega) (by omega), fun a c q => h.1 a c (by omega) (by omega), fun a w q1 q2 q3 => ?_, fun c => by rw [h.2.2]⟩
  by_cases h13 : a < 13
  · exact h.1 a w (by omega) (by omega)
  · obtain ⟨⟨s1, s2, s3, s4, s5⟩, -⟩ := h.2.1 w (by omega)
    have ha : a = 13 ∨ a = 14 ∨ a = 15 ∨ a = 16 ∨ a = 17 := by omega
    rcases ha with rfl | rfl | rfl | rfl | rfl <;> assumption
/-! the class's thought, while places are tried -/
def HX (G : Nat) (σ S τ : xS) : Prop := FR σ S ∧ S.1 200 1 = nI G ∧ (∀ g, g < G → TG 200 S τ.1 g) ∧ TL (S.2 200 0) τ.1
theorem HX_0 {G N : Nat} {σ τ : xS} (h : RRn G N σ τ) : HX G σ (thX σ 0) τ := by
  obtain ⟨tT, -⟩ := th_b h 0
  have tT : TW 200 G N (thX σ 0) (bgM τ).1 := tT
  have hv : ∀ a c, a ≤ 17 → (bgM τ).1 a c = τ.1 a c := fun a c q => bgM_o (by omega)
  refine ⟨FR_th0 h 0, tT.1.1, fun g hg => ?_, fun p hp => by rw [← hv 10 p (by omega)]; exact tT.2.2.2 p hp⟩
  obtain ⟨b1, b2, b3⟩ := tT.2.1 g hg
  exact ⟨by rw [← hv 8 g (by omega)]; exact b1, by rw [← hv 9 g (by omega)]; exact b2, fun j hj => by rw [← hv 7 _ (by omega)]; exact b3 j (by rw [hv 8 g (by omega)]; exact hj)⟩
theorem tkW_i {B O n a b : Nat} {σ : xS} (h1 : a < n) (h2 : b < 7) : (tkW B O n σ).1 (B + 20 + a) b = σ.1 (O + 20 + a) b := by
  show (if B + 20 ≤ B + 20 + a ∧ B + 20 + a < B + 20 + n ∧ b < 7 then _ else _) = _
  rw [if_pos ⟨by omega, by omega, h2⟩, show B + 20 + a - (B + 20) = a by omega]
theorem b4_ok : ∀ p, p < 49 → ∀ d, d < 4 → nI (4 * p + d) / 4 = nI p ∧ xrem (nI (4 * p + d)) 4 = nI d := by decide +kernel
theorem hire_TW {G N p d g : Nat} {σ τ S U : xS} (h : RRn G N σ τ) (hN : N < 6) (hX : HX G σ S τ) (hQ : HQ N τ U) (hp : p < 49) (hd : d < 4) (hg : g < G) : TW 200 G (N + 1) (hbS S (nI g) (nI (4 * p + d))) (hqW U (nI g) p d).1 ∧ WF G (N + 1) (hqW U (nI g) p d).1 := by
  obtain ⟨⟨hG, -⟩, ⟨c1, c2⟩, ⟨c3, c4⟩⟩ := RRn_G h
  obtain ⟨x1, x2, x3, x4⟩ := hX
  obtain ⟨e1, e2⟩ := b4_ok p hp d hd
  have eN : S.1 100 2 = nI N := (x1.1 100 2 (by omega)).trans c3
  unfold hbS hqW
  rw [e1, e2, eN, tn_nI (i := N) (by omega)]
  have hM := HQ_MFr (by omega) hQ
  have hW := h.1.1.2
  have WU : WF G N U.1 := WF_v ⟨hM.1 0 (by omega), hM.1 1 (by omega)⟩ (fun a c q1 q2 => hM.2.1 a c (by omega)) hM.2.2.1 hW
  have TU : TW 200 G N (tkW 200 100 N (xI S 200 2 (nI N))) τ.1 := by
    refine ⟨⟨?_, ?_⟩, fun g' hg' => ?_, fun w hw => ?_, x4⟩
    · rw [tkW_o (by omega), xI_n (by omega)]; exact x2
    · rw [tkW_o (by omega), xI_s]
    · obtain ⟨b1, b2, b3⟩ := x3 g' hg'
      refine ⟨?_, ?_, fun j hj => ?_⟩
      · rw [tkW_o (by omega), xI_n (by omega)]; exact b1
      · rw [tkW_o (by omega), xI_n (by omega)]; exact b2
      · rw [tkW_o (by omega), xI_n (by omega)]; exact b3 j hj
    · obtain ⟨k0, k1, k2, k3, k4, k5, k6⟩ := h.1.1.1.2.2.1 w hw
      have e : ∀ b, b < 7 → (tkW 200 100 N (xI S 200 2 (nI N))).1 (200 + 20 + w) b = σ.1 (100 + 20 + w) b := fun b hb => by rw [tkW_i hw hb, xI_n (by omega), x1.1 _ _ (by omega)]
      refine ⟨?_, ?_, ?_, ?_, ?_, ?_, ?_⟩ <;> rw [e _ (by omega)] <;> assumption
  have TU2 := TW_v (fun a c q1 q2 => hM.2.1 a c (by omega)) hM.2.2.1 TU
  exact TW_add (k := 1) (a := 0) TU2 WU hN (by omega) hp hd hg
theorem HX_T {G N p d : Nat} {g n : Int32} {σ τ S : xS} (h : RRn G N σ τ) (hN : N < 6) (hX : HX G σ S τ) : HX G σ (hbT S g (nI (4 * p + d)) n) τ := by
  obtain ⟨⟨hG, -⟩, ⟨c1, c2⟩, ⟨c3, c4⟩⟩ := RRn_G h
  obtain ⟨x1, x2, x3, x4⟩ := hX
  have eN : S.1 100 2 = nI N := (x1.1 100 2 (by omega)).trans c3
  have hF : FR S (hbT S g (nI (4 * p + d)) n) := FR_hbT (by rw [eN]; exact nI_pos' (by omega)) (by rw [eN]; exact nI_lt (b := 6) (by omega) (by omega))
  have ho : ∀ a b, 200 ≤ a → a < 220 → (a ≠ 200 ∨ b ≠ 2) → (hbT S g (nI (4 * p + d)) n).1 a b = S.1 a b := fun a b q1 q2 q3 => by
    unfold hbT
    rw [gbX_o (fun j => by omega)]
    unfold hbS
    rw [addW_o (by omega) q3, tkW_o (by omega), xI_n (by omega)]
  have h2 : (hbT S g (nI (4 * p + d)) n).2 = S.2 := by
    unfold hbT
    rw [gbX_2]
    rfl
  refine ⟨FR_t x1 hF, by rw [ho _ _ (by omega) (by omega) (by omega)]; exact x2, fun g' hg' => ?_, by rw [h2]; exact x4⟩
  obtain ⟨b1, b2, b3⟩ := x3 g' hg'
  exact ⟨by rw [ho _ _ (by omega) (by omega) (by omega)]; exact b1, by rw [ho _ _ (by omega) (by omega) (by omega)]; exact b2, fun j hj => by rw [ho _ _ (by omega) (by omega) (by omega)]; exact b3 j hj⟩
/-! all of them have it: no bit is wanting -/
theorem all_6 : ∀ n, n < 7 → ∀ a b c d e f : Bool, xbits (f6 a b c d e f) n = xshl 1 (nI n) - 1 ↔ xany (fun i => !(f6 a b c d e f i)) n = false := by decide +kernel
theorem all_n {P : Nat → Bool} {n : Nat} (hn : n ≤ 6) : xbits P n = xshl 1 (nI n) - 1 ↔ xany (fun i => !(P i)) n = false := by
  have h : ∀ j, j < n → P j = f6 (P 0) (P 1) (P 2) (P 3) (P 4) (P 5) j := fun j hj => by
    have : j = 0 ∨ j = 1 ∨ j = 2 ∨ j = 3 ∨ j = 4 ∨ j = 5 := by omega
    rcases this with rfl | rfl | rfl | rfl | rfl | rfl <;> rfl
  rw [xbits_congr h, xany_congr (fun j hj => by rw [h j hj])]
  exact all_6 n (by omega) _ _ _ _ _ _
theorem hp_eq {G N p d g j : Nat} {σ τ S U : xS} (h : RRn G N σ τ) (hN : N < 6) (hX : HX G σ S τ) (hQ : HQ N τ U) (hp : p < 49) (hd : d < 4) (hg : g < G) : hbP S (nI g) (nI (4 * p + d)) j = hqP (hqW U (nI g) p d) (nI g) j := by
  obtain ⟨tT, tW⟩ := hire_TW h hN hX hQ hp hd hg
  obtain ⟨⟨bT, bW⟩, -⟩ := beats_ok tT tW j
  unfold hbP hqP
  refine decide_eq_decide.mpr ?_
  rw [tW.1.2.2.2]
  unfold hvM haX
  rw [bW.1.2.2.2, bT.1.2, tn_nI (by omega), all_n (by omega)]
  have e : xany (fun i => decide (¬ (gbX 200 j (hbS S (nI g) (nI (4 * p + d)))).1 (200 + 20 + i) 3 = nI g)) (N + 1) = xany (fun i => !(hvP (gbM j (hqW U (nI g) p d)) (nI g) i)) (N + 1) := xany_congr (fun i hi => by
    unfold hvP
    rw [(bT.2.2.1 i hi).2.2.2.1, decide_not])
  rw [e]
