/-! the call that teaches a gait -/
theorem br_1 {n m : Int32} : (1 : Int32).toInt64 * n.toInt64 ≤ m.toInt64 ↔ n ≤ m := by
  rw [show (1 : Int32).toInt64 = 1 from rfl, Int64.one_mul, Int64.le_iff_toInt_le, Int32.toInt_toInt64, Int32.toInt_toInt64, ← Int32.le_iff_toInt_le]
theorem nm_in {N s i : Nat} {σ τ : xS} (hs : s < 8) (h : SHr N σ τ s) (h1 : τ.1 23 s = 1) (hi : i < tn (τ.1 25 s)) : nmA σ (10 + s) (nI i) = inM τ (nI s) (nI i) := by
  obtain ⟨-, e4, e5⟩ := sh_row h h1
  obtain ⟨m, hm, em⟩ := rle (k := 160) (by omega) h.1
  rw [em, tn_nI (by omega)] at hi
  unfold nmA inM
  rw [e4, em, if_pos ⟨nI_pos' (by omega), nI_lt hi (by omega), nI_lt (b := 160) (by omega) (by omega)⟩, tn_nI (by omega), show 160 * nI s + nI i = nI (160 * s + i) by rw [show (160 : Int32) = nI 160 from rfl, pk_mul, nI_add], tn_nI (by omega), show 10 + s + 10 = 20 + s by omega, e5 i (by rw [em, tn_nI (by omega)]; exact hi)]
theorem gtS_7 {τ : xS} {s : Int32} {G c : Nat} (hG : tn (τ.1 0 0) = G) : ∀ {n i : Nat}, i < n → (gtS τ s n).1 7 (8 * G + i) = inM τ s (nI i)
  | n + 1, i, hi => by
    rw [gtS, hG]
    by_cases e : i = n
    · rw [e, xI_s]
    · rw [xI_n (by omega)]
      exact gtS_7 (c := c) hG (by omega)
theorem gtS_7o {τ : xS} {s : Int32} {G b : Nat} (hG : tn (τ.1 0 0) = G) (hb : b < 8 * G) : ∀ {n : Nat}, (gtS τ s n).1 7 b = τ.1 7 b
  | 0 => rfl
  | n + 1 => by rw [gtS, hG, xI_n (by omega)]; exact gtS_7o hG hb
theorem RRn_gait {G N s l a : Nat} {σ τ : xS} (h : RRn G N σ τ) (hs : s < 8) (h1 : τ.1 23 s = 1) (hG : G < 8) (hl : 1 ≤ l ∧ l ≤ 8) (hls : l ≤ tn (τ.1 25 s)) (ha : a < 3) (hin : ∀ j, j < l → ∃ q, q < 4 ∧ inM τ (nI s) (nI j) = nI q) : RRn (G + 1) N (adG σ 100 (nI l) (nI a) (gsT σ (10 + s) l)) (gtF τ (nI s) (nI l) (nI a)) := by
  obtain ⟨-, ⟨c1, c2⟩, -⟩ := RRn_G h
  have tG : tn (τ.1 0 0) = G := by rw [c2, tn_nI (by omega)]
  have tl : tn (nI l) = l := tn_nI (by omega)
  have hst : ∀ j, j < l → ∃ q, q < 4 ∧ nI q = inM τ (nI s) (nI j) := fun j hj => by obtain ⟨q, h1, h2⟩ := hin j hj; exact ⟨q, h1, h2.symm⟩
  have hst' : ∀ j, ∃ q, j < l → (q < 4 ∧ nI q = inM τ (nI s) (nI j)) := fun j => by
    by_cases hj : j < l
    · obtain ⟨q, hq⟩ := hst j hj; exact ⟨q, fun _ => hq⟩
    · exact ⟨0, fun z => absurd z hj⟩
  let st : Nat → Nat := fun j => Classical.choose (hst' j)
  have s1 : ∀ j, j < l → st j < 4 ∧ nI (st j) = inM τ (nI s) (nI j) := fun j hj => Classical.choose_spec (hst' j) hj
  generalize st = st at s1
  have hX : ∀ c b, c ≠ 100 + 10 + G → (c ≠ 100 ∨ b ≠ 1) → (adG σ 100 (nI l) (nI a) (gsT σ (10 + s) l)).1 c b = σ.1 c b := fun c b q q2 => by
    unfold adG
    rw [c1, tn_nI (by omega), xI_n (by omega), xI_n (by omega), xI_n (by omega), xI_n (by omega)]
  have hM : ∀ c b, (c ≠ 7 ∧ c ≠ 8 ∧ c ≠ 9) → (c ≠ 0 ∨ b ≠ 0) → (gtF τ (nI s) (nI l) (nI a)).1 c b = τ.1 c b := fun c b q q2 => by
    unfold gtF
    rw [xI_n (by omega), xI_n (by omega), xI_n (by omega), gtS_o (by omega)]
  refine RRn_t h (TA_gait (st := st) h.1 hG hl ha (fun j hj => (s1 j hj).1) hX rfl ?_ ?_ (fun j hj => ?_) ?_ (fun c b q q2 => ?_) ?_ ?_ ?_ (fun j hj => ?_)) (Nat.le_refl _) (fun c b q _ _ => hX c b (by omega) (by omega)) (fun _ _ _ _ _ _ _ => rfl) (fun c q => hM 0 c (by omega) (by omega)) (fun c b q => hM c b (by omega) (by omega)) (fun c => by show (gtS τ (nI s) (tn (nI l))).2 27 c = _; rw [gtS_2])
  · unfold adG; rw [c1, tn_nI (by omega), xI_n (by omega), xI_n (by omega), xI_n (by omega), xI_s]
  · unfold adG; rw [c1, tn_nI (by omega), xI_n (by omega), xI_n (by omega), xI_s]
  · have e2 : (adG σ 100 (nI l) (nI a) (gsT σ (10 + s) l)).1 (100 + 10 + G) 2 = gsT σ (10 + s) l := by unfold adG; rw [c1, tn_nI (by omega), xI_n (by omega), xI_s]
    rw [e2]
    exact unpack_ok (P := gsT σ (10 + s)) hl.2 rfl (fun i hi => by rw [(s1 i hi).2, ← nm_in hs (h.2.1 s hs) h1 (by omega)]; rfl) (fun i hi => (s1 i hi).1) (Nat.le_refl _) hj
  · unfold adG; rw [xI_s, c1, nI_1]
  · by_cases c7 : c = 7
    · rw [c7]
      unfold gtF
      rw [xI_n (by omega), xI_n (by omega), xI_n (by omega), gtS_7o tG (by omega)]
    · by_cases c89 : c = 8 ∨ c = 9
      · unfold gtF
        rw [tG, xI_n (by omega), xI_n (by omega), xI_n (by omega), gtS_o (by omega)]
      · exact hM c b (by omega) q2
  · unfold gtF; rw [xI_s, c2, nI_1]
  · unfold gtF; rw [tG, xI_n (by omega), xI_n (by omega), xI_s]
  · unfold gtF; rw [tG, xI_n (by omega), xI_s]
  · unfold gtF
    rw [xI_n (by omega), xI_n (by omega), xI_n (by omega), tl, gtS_7 (c := 0) tG hj, (s1 j hj).2]
theorem n8_lt : ∀ n, n ≤ 8 → (nI n < 8 ↔ n < 8) ∧ (nI n = 8 ↔ ¬ n < 8) := by decide
theorem ok_gait {G N : Nat} {σ τ : xS} (h : RRn G N σ τ) (s n a : Int32) : OKp (gaitX σ s n a) (gaiM τ s n a) := by
  obtain ⟨⟨hG, hN⟩, ⟨c1, c2⟩, ⟨c3, c4⟩⟩ := RRn_G h
  unfold gaitX gaiM brM
  by_cases hs : 0 ≤ s ∧ s < 8
  · obtain ⟨s', hs', rfl⟩ := shs hs
    rw [if_pos hs, wt_eq h hs', tn_nI (i := s') (by omega)]
    rcases sh_c hN (h.2.1 s' hs') with ⟨b1, b2, b3⟩ | ⟨b1, -, b3⟩ | ⟨b1, -, b3⟩
    · rw [b3, if_neg (show ¬ (-3 : Int32) = 0 by decide), if_neg (show ¬ (-3 : Int32) = 0 by decide), if_pos (show ¬ (-3 : Int32) = 0 by decide)]
      exact no_p rk3 h
    · obtain ⟨-, e4, e5⟩ := sh_row (h.2.1 s' hs') b1
      rw [b3, if_pos (rfl : (0 : Int32) = 0), if_pos (rfl : (0 : Int32) = 0), e4]
      by_cases hn : n < 0
      · rw [if_pos hn, if_pos hn, if_pos (show ¬ (-4 : Int32) = 0 by decide)]
        exact no_p rk4 h
      · rw [if_neg hn, if_neg hn]
        by_cases hz : n ≤ τ.1 25 s'
        · rw [if_neg (Int32.not_lt.mpr hz), if_neg (not_not_intro (br_1.mpr hz)), if_neg (not_not_intro (rfl : (0 : Int32) = 0))]
          by_cases hc : n < 1 ∨ 8 < n ∨ ¬ (0 ≤ a ∧ a ≤ 2)
          · have hc' : n < 1 ∨ 8 < n ∨ a < 0 ∨ 2 < a := hc.elim Or.inl (fun z => Or.inr (z.elim Or.inl (fun y => Or.inr (nrg.mp y))))
            rw [if_pos hc, if_pos hc']
            exact no_p rk6 h
          · have hc' : ¬ (n < 1 ∨ 8 < n ∨ a < 0 ∨ 2 < a) := fun q => hc (q.elim Or.inl (fun z => Or.inr (z.elim Or.inl (fun y => Or.inr (nrg.mpr y)))))
            have ha : 0 ≤ a ∧ a ≤ 2 := Classical.not_not.mp (fun z => hc (Or.inr (Or.inr z)))
            have hn1 : ¬ n < 1 := fun z => hc (Or.inl z)
            have hn8 : ¬ 8 < n := fun z => hc (Or.inr (Or.inl z))
            rw [if_neg hc, if_neg hc']
            obtain ⟨l, hl8, rfl⟩ := rle (k := 8) (by omega) ⟨Int32.not_lt.mp hn, Int32.not_lt.mp hn8⟩
            obtain ⟨a', ha', rfl⟩ := rle (k := 2) (by omega) ha
            have hl1 : 1 ≤ l := by
              rcases Nat.eq_zero_or_pos l with z | z
              · exact absurd (by rw [z]; decide) hn1
              · exact z
            obtain ⟨m, hm, em⟩ := rle (k := 160) (by omega) (h.2.1 s' hs').1
            have hlm : l ≤ tn (τ.1 25 s') := by
              rw [em] at hz ⊢
              rw [tn_nI (by omega)]
              rcases Nat.lt_or_ge m l with z | z
              · exact absurd (nI_lt z (by omega)) (Int32.not_lt.mpr hz)
              · exact z
            unfold gaiX2
            rw [tn_nI (i := l) (by omega)]
            have ex : xany (gsB σ (10 + s')) l = xany (gtB τ (nI s')) l := xany_congr (fun j hj => by
              unfold gsB gtB
              rw [nm_in hs' (h.2.1 s' hs') b1 (by omega)]
              exact decide_eq_decide.mpr nrg)
            rw [ex, c1, c2]
            by_cases hx : xany (gtB τ (nI s')) l = true
            · rw [if_pos hx, if_pos hx]
              exact no_p rk6 h
            · rw [if_neg hx, if_neg hx]
              by_cases h8 : G < 8
              · rw [if_pos ((n8_lt G hG).1.mpr h8), if_neg (fun z => (n8_lt G hG).2.mp z h8)]
                refine OKp_i (F := (_, _)) rfl (RRn_gait h hs' b1 h8 ⟨hl1, hl8⟩ hlm (by omega) (fun j hj => ?_))
                have hb : gtB τ (nI s') j = false := by
                  cases eb : gtB τ (nI s') j with
                  | false => rfl
                  | true => exact absurd (xany_t hj eb) hx
                have := of_decide_eq_false hb
                have h03 : 0 ≤ inM τ (nI s') (nI j) ∧ inM τ (nI s') (nI j) ≤ 3 := ⟨Int32.not_lt.mp (fun z => this (Or.inl z)), Int32.not_lt.mp (fun z => this (Or.inr z))⟩
                obtain ⟨q, hq, eq⟩ := rle (k := 3) (by omega) h03
                exact ⟨q, by omega, eq⟩
              · rw [if_neg (fun z => h8 ((n8_lt G hG).1.mp z)), if_pos ((n8_lt G hG).2.mpr h8)]
                exact no_p rk7 h
        · rw [if_pos (Int32.not_le.mp hz), if_pos (fun q => hz (br_1.mp q)), if_pos (show ¬ (-5 : Int32) = 0 by decide)]
          exact no_p rk5 h
    · rw [b3, if_neg (show ¬ (-2 : Int32) = 0 by decide), if_neg (show ¬ (-2 : Int32) = 0 by decide), if_pos (show ¬ (-2 : Int32) = 0 by decide)]
      exact no_p rk2 h
  · have : wtM τ s = -1 := by unfold wtM; rw [if_pos hs]
    rw [if_neg hs, this, if_neg (show ¬ (-1 : Int32) = 0 by decide), if_pos (show ¬ (-1 : Int32) = 0 by decide)]
    exact no_p rk1 h
