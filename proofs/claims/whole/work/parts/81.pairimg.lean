/-! rows copied; the image -/
theorem sh_k {N s : Nat} {σ τ : xS} (hN : N ≤ 6) (h : SHr N σ τ s) : (τ.1 23 s = 2 ↔ (0 ≤ σ.1 (10 + s) 0 ∧ σ.1 (10 + s) 0 < 100)) ∧ (τ.1 23 s = 1 ↔ 100 ≤ σ.1 (10 + s) 0) ∧ (τ.1 23 s = 0 ∨ τ.1 23 s = 1 ∨ τ.1 23 s = 2) := by
  have e100 : (100 : Int32) = nI 100 := rfl
  rcases sh_c hN h with ⟨b1, b2, -⟩ | ⟨b1, ⟨o, o4, b4, b5⟩, -⟩ | ⟨b1, ⟨w, hw, b4, b5⟩, -⟩
  · rw [b1, b2]
    exact ⟨⟨fun q => absurd q (by decide), fun q => absurd q.1 (by decide)⟩, ⟨fun q => absurd q (by decide), fun q => absurd q (by decide)⟩, Or.inl rfl⟩
  · rw [b1, b5]
    refine ⟨⟨fun q => absurd q (by decide), fun q => ?_⟩, ⟨fun _ => (nI_leI (a := 100) (by omega) (by omega)).mpr (by omega), fun _ => rfl⟩, Or.inr (Or.inl rfl)⟩
    have := (nI_ltI (b := 100) (by omega) (by omega)).mp q.2
    omega
  · rw [b1, b5]
    refine ⟨⟨fun _ => ⟨nI_pos' (by omega), (nI_ltI (b := 100) (by omega) (by omega)).mpr (by omega)⟩, fun _ => rfl⟩, ⟨fun q => absurd q (by decide), fun q => ?_⟩, Or.inr (Or.inr rfl)⟩
    have := (nI_leI (a := 100) (by omega) (by omega)).mp q
    omega
theorem sp_ok {z i n : Int32} (hz : 0 ≤ z ∧ z ≤ 160) (hn : 0 ≤ n) : (0 ≤ i ∧ 0 ≤ n ∧ z ≤ 160 ∧ n ≤ z - i) ↔ (¬ i < 0 ∧ ¬ z - n < i) := by
  have a1 := t_le.mp hz.1
  have a2 := t_le.mp hz.2
  have a3 := t_le.mp hn
  rw [t_0] at a1 a3
  rw [t_160] at a2
  have rn := t_rng n
  have ri := t_rng i
  have s2 : (z - n).toInt = z.toInt - n.toInt := t_sub (by omega) (by omega)
  constructor
  · rintro ⟨h1, h2, h3, h4⟩
    have b1 := t_le.mp h1
    rw [t_0] at b1
    have s1 : (z - i).toInt = z.toInt - i.toInt := t_sub (by omega) (by omega)
    have b4 := t_le.mp h4
    rw [s1] at b4
    exact ⟨Int32.not_lt.mpr h1, fun q => by have := t_lt.mp q; rw [s2] at this; omega⟩
  · rintro ⟨h1, h2⟩
    have h1 := Int32.not_lt.mp h1
    have b1 := t_le.mp h1
    rw [t_0] at b1
    have s1 : (z - i).toInt = z.toInt - i.toInt := t_sub (by omega) (by omega)
    have b2 := t_le.mp (Int32.not_lt.mp h2)
    rw [s2] at b2
    exact ⟨h1, hn, hz.2, by rw [t_le, s1]; omega⟩
theorem cy_row {G N p q i j n : Nat} {σ τ : xS} (h : RRn G N σ τ) (hp : p < 8) (hq : q < 8) (h1 : τ.1 23 p = 1) (h2 : τ.1 23 q = 1) (hi : i + n ≤ tn (τ.1 25 p)) (hj : j + n ≤ tn (τ.1 25 q)) : RRn G N (xJs σ (20 + q) (va_cpy (σ.2 (20 + p)) (σ.2 (20 + q)) i j n)) (cyB (160 * q + j) n (cyA (160 * p + i) n τ)) := by
  have hsq := h.2.1 q hq
  have hsp := h.2.1 p hp
  obtain ⟨⟨o, o4, e1, e2⟩, e4, e5⟩ := sh_row hsq h2
  obtain ⟨-, -, f5⟩ := sh_row hsp h1
  have hz : tn (τ.1 25 q) ≤ 160 := by
    have := t_le.mp hsq.1.2
    rw [t_160] at this
    rw [t_tn]
    omega
  have m2 : ∀ c, (cyB (160 * q + j) n (cyA (160 * p + i) n τ)).2 27 c = if 160 * q + j ≤ c ∧ c < 160 * q + j + n then τ.2 27 (160 * p + i + (c - (160 * q + j))) else τ.2 27 c := fun c => by
    show (if 27 = 27 ∧ 160 * q + j ≤ c ∧ c < 160 * q + j + n then (cyA (160 * p + i) n τ).2 28 (c - (160 * q + j)) else (cyA (160 * p + i) n τ).2 27 c) = _
    rw [cyA_27]
    by_cases hc : 160 * q + j ≤ c ∧ c < 160 * q + j + n
    · rw [if_pos ⟨rfl, hc⟩, if_pos hc]
      show (if 28 = 28 ∧ c - (160 * q + j) < n then τ.2 27 (160 * p + i + (c - (160 * q + j))) else τ.2 28 (c - (160 * q + j))) = _
      rw [if_pos ⟨rfl, by omega⟩]
    · rw [if_neg (fun z => hc z.2), if_neg hc]
  refine RRn_sh h hq ⟨hsq.1, ⟨hsq.2.1.1, Or.inl h2⟩, Or.inr (Or.inl ⟨h2, ⟨o, o4, e1, e2⟩, e4, fun k hk => ?_⟩)⟩ (fun _ _ _ => rfl) (fun a b z => by rw [xJs_ne _ _ (by omega)]) (fun _ _ _ => rfl) (fun c z => by rw [m2, if_neg (by omega)])
  have hk : k < tn (τ.1 25 q) := hk
  rw [xJs_self, m2]
  by_cases hc : j ≤ k ∧ k < j + n
  · rw [pk_cpy_in hc.1 hc.2, if_pos ⟨by omega, by omega⟩, f5 _ (by omega), show 160 * p + i + (160 * q + k - (160 * q + j)) = 160 * p + (i + (k - j)) by omega]
  · rw [pk_cpy_out (by omega), if_neg (by omega)]
    exact e5 k hk
theorem ok_copy {G N : Nat} {σ τ : xS} (h : RRn G N σ τ) (p q i j n : Int32) : OKp (copyX σ p q i j n) (cpyM τ p q i j n) := by
  have hN := (RRn_G h).1.2
  unfold copyX cpyM
  by_cases hs : (0 ≤ p ∧ p < 8) ∧ (0 ≤ q ∧ q < 8)
  · have hs' : ¬ (¬ (0 ≤ p ∧ p < 8) ∨ ¬ (0 ≤ q ∧ q < 8)) := fun z => z.elim (fun y => y hs.1) (fun y => y hs.2)
    rw [if_pos hs, if_neg hs']
    obtain ⟨p', hp, rfl⟩ := shs hs.1
    obtain ⟨q', hq, rfl⟩ := shs hs.2
    rw [tn_nI (i := p') (by omega), tn_nI (i := q') (by omega)]
    have sp := h.2.1 p' hp
    have sq := h.2.1 q' hq
    obtain ⟨kp1, kp2, kp3⟩ := sh_k hN sp
    obtain ⟨kq1, kq2, kq3⟩ := sh_k hN sq
    have hho : τ.1 23 p' = 1 → τ.1 23 q' = 1 → (σ.1 (10 + p') 0 = σ.1 (10 + q') 0 ↔ τ.1 24 p' = τ.1 24 q') := fun h1 h2 => by
      obtain ⟨⟨o, o4, e1, e2⟩, -⟩ := sh_row sp h1
      obtain ⟨⟨o', o4', f1, f2⟩, -⟩ := sh_row sq h2
      rw [e1, e2, f1, f2, nI_eq (by omega) (by omega), nI_eq (by omega) (by omega)]
      omega
    have h2e : ((0 ≤ σ.1 (10 + p') 0 ∧ σ.1 (10 + p') 0 < 100) ∨ (0 ≤ σ.1 (10 + q') 0 ∧ σ.1 (10 + q') 0 < 100) ∨ ((100 ≤ σ.1 (10 + p') 0 ∧ 100 ≤ σ.1 (10 + q') 0) ∧ ¬ σ.1 (10 + p') 0 = σ.1 (10 + q') 0)) ↔ (τ.1 23 p' = 2 ∨ τ.1 23 q' = 2 ∨ (τ.1 23 p' = 1 ∧ τ.1 23 q' = 1 ∧ ¬ τ.1 24 p' = τ.1 24 q')) := by
      rw [← kp1, ← kq1, ← kp2, ← kq2]
      constructor
      · rintro (z | z | ⟨⟨z1, z2⟩, z3⟩)
        · exact Or.inl z
        · exact Or.inr (Or.inl z)
        · exact Or.inr (Or.inr ⟨z1, z2, fun y => z3 ((hho z1 z2).mpr y)⟩)
      · rintro (z | z | ⟨z1, z2, z3⟩)
        · exact Or.inl z
        · exact Or.inr (Or.inl z)
        · exact Or.inr (Or.inr ⟨⟨z1, z2⟩, fun y => z3 ((hho z1 z2).mp y)⟩)
    by_cases hc2 : τ.1 23 p' = 2 ∨ τ.1 23 q' = 2 ∨ (τ.1 23 p' = 1 ∧ τ.1 23 q' = 1 ∧ ¬ τ.1 24 p' = τ.1 24 q')
    · rw [if_pos (h2e.mpr hc2), if_pos hc2]
      exact no_p rk2 h
    · rw [if_neg (fun z => hc2 (h2e.mp z)), if_neg hc2]
      by_cases hc3 : τ.1 23 p' = 0 ∨ τ.1 23 q' = 0
      · have hc3' : ¬ (100 ≤ σ.1 (10 + p') 0 ∧ 100 ≤ σ.1 (10 + q') 0) := fun z => by
          rw [← kp2, ← kq2] at z
          rcases hc3 with y | y
          · rw [z.1] at y; exact absurd y (by decide)
          · rw [z.2] at y; exact absurd y (by decide)
        rw [if_pos hc3', if_pos hc3]
        exact no_p rk3 h
      · have r1 : τ.1 23 p' = 1 := by
          rcases kp3 with z | z | z
          · exact absurd (Or.inl z) hc3
          · exact z
          · exact absurd (Or.inl z) hc2
        have r2 : τ.1 23 q' = 1 := by
          rcases kq3 with z | z | z
          · exact absurd (Or.inr z) hc3
          · exact z
          · exact absurd (Or.inr (Or.inl z)) hc2
        have hc3' : 100 ≤ σ.1 (10 + p') 0 ∧ 100 ≤ σ.1 (10 + q') 0 := ⟨kp2.mp r1, kq2.mp r2⟩
        rw [if_neg (not_not_intro hc3'), if_neg hc3]
        by_cases hn : n < 0
        · rw [if_pos hn, if_pos hn]
          exact no_p rk4 h
        · rw [if_neg hn, if_neg hn]
          obtain ⟨-, ep, -⟩ := sh_row sp r1
          obtain ⟨-, eq, -⟩ := sh_row sq r2
          have hn0 := Int32.not_lt.mp hn
          have op := sp_ok (i := i) sp.1 hn0
          have oq := sp_ok (i := j) sq.1 hn0
          rw [ep, eq]
          by_cases hc5 : i < 0 ∨ j < 0 ∨ τ.1 25 p' - n < i ∨ τ.1 25 q' - n < j
          · have hc5' : ¬ ((0 ≤ i ∧ 0 ≤ n ∧ τ.1 25 p' ≤ 160 ∧ n ≤ τ.1 25 p' - i) ∧ (0 ≤ j ∧ 0 ≤ n ∧ τ.1 25 q' ≤ 160 ∧ n ≤ τ.1 25 q' - j)) := fun z => by
              have z1 := op.mp z.1
              have z2 := oq.mp z.2
              rcases hc5 with y | y | y | y
              · exact z1.1 y
              · exact z2.1 y
              · exact z1.2 y
              · exact z2.2 y
            rw [if_neg hc5', if_pos hc5]
            exact no_p rk5 h
          · have y1 : ¬ i < 0 := fun z => hc5 (Or.inl z)
            have y2 : ¬ j < 0 := fun z => hc5 (Or.inr (Or.inl z))
            have y3 : ¬ τ.1 25 p' - n < i := fun z => hc5 (Or.inr (Or.inr (Or.inl z)))
            have y4 : ¬ τ.1 25 q' - n < j := fun z => hc5 (Or.inr (Or.inr (Or.inr z)))
            rw [if_pos ⟨op.mpr ⟨y1, y3⟩, oq.mpr ⟨y2, y4⟩⟩, if_neg hc5]
            have rg : ∀ {z i : Int32}, (0 ≤ z ∧ z ≤ 160) → ¬ i < 0 → ¬ z - n < i → tn i + tn n ≤ tn z := fun {z i} hz hi hh => by
              have a1 := t_le.mp hz.1
              have a2 := t_le.mp hz.2
              have a3 := t_le.mp hn0
              have a4 := t_le.mp (Int32.not_lt.mp hi)
              have a5 := t_le.mp (Int32.not_lt.mp hh)
              rw [t_0] at a1 a3 a4
              rw [t_160] at a2
              have r := t_rng n
              rw [t_sub (by omega) (by omega)] at a5
              rw [t_tn, t_tn, t_tn]
              omega
            rw [show 10 + p' + 10 = 20 + p' by omega, show 10 + q' + 10 = 20 + q' by omega]
            exact ⟨rfl, G, N, cy_row h hp hq r1 r2 (rg sp.1 y1 y3) (rg sq.1 y2 y4)⟩
  · have hs' : ¬ (0 ≤ p ∧ p < 8) ∨ ¬ (0 ≤ q ∧ q < 8) := by
      by_cases z : 0 ≤ p ∧ p < 8
      · exact Or.inr (fun y => hs ⟨z, y⟩)
      · exact Or.inl z
    rw [if_neg hs, if_pos hs']
    exact no_p rk1 h
/-- a town copied -/
theorem TA_cp {B O G N : Nat} {σ : xS} {v : Nat → Nat → Int32} (hap : B + 100 ≤ O ∨ O + 100 ≤ B) (h : TA O G N σ v) : TA B G N (cpT B O σ) v := by
  obtain ⟨⟨hT, hW⟩, ⟨c1, c2, c3⟩, hh⟩ := h
  have hG := hW.1.1
  have hN := hW.1.2.1
  have e1 : tn (σ.1 O 1) = G := by rw [hT.1.1, tn_nI (by omega)]
  have e2 : tn (σ.1 O 2) = N := by rw [hT.1.2, tn_nI (by omega)]
  obtain ⟨⟨a1, a2⟩, hg, hw, hl⟩ := hT
  have h2 : (cpT B O σ).2 B 0 = σ.2 O 0 := by
    rw [cpT_2]
    simp [xJ]
  refine ⟨⟨⟨⟨by rw [cpT_c (by omega)]; exact a1, by rw [cpT_c (by omega)]; exact a2⟩, fun g hgG => ?_, fun w hwN => ?_, by rw [h2]; exact hl⟩, hW⟩, ⟨by rw [cpT_c (by omega)]; exact c1, by rw [cpT_c (by omega)]; exact c2, by rw [cpT_c (by omega)]; exact c3⟩, by rw [h2]; exact hh⟩
  · obtain ⟨b1, b2, b3⟩ := hg g hgG
    refine ⟨?_, ?_, fun j hj => ?_⟩
    · rw [cpT_g (by omega) (by omega) (by omega) hap]; exact b1
    · rw [cpT_g (by omega) (by omega) (by omega) hap]; exact b2
    · rw [cpT_g (by omega) (by omega) (by omega) hap]; exact b3 j hj
  · obtain ⟨k0, k1, k2, k3, k4, k5, k6⟩ := hw w hwN
    refine ⟨?_, ?_, ?_, ?_, ?_, ?_, ?_⟩ <;> rw [cpT_w (by omega) (by omega) (by omega) hap (by omega)] <;> assumption
