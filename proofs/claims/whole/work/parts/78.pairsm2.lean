/-! small calls, side by side -/
theorem rle {y : Int32} {k : Nat} (hk : k < 2 ^ 31) (h : 0 ≤ y ∧ y ≤ nI k) : ∃ m, m ≤ k ∧ y = nI m := nI_rl hk h.1 h.2
theorem lt_succ' {p : Int32} (k : Nat) (hk : k + 1 < 2 ^ 31) : (0 ≤ p ∧ p ≤ nI k) ↔ (0 ≤ p ∧ p < nI (k + 1)) := by
  constructor
  · rintro ⟨h1, h2⟩
    refine ⟨h1, ?_⟩
    rw [t_lt, t_nI (by omega)]
    rw [t_le, t_nI (by omega)] at h2
    omega
  · rintro ⟨h1, h2⟩
    refine ⟨h1, ?_⟩
    rw [t_le, t_nI (by omega)]
    rw [t_lt, t_nI (by omega)] at h2
    omega
theorem p4849 {p : Int32} : (0 ≤ p ∧ p ≤ 48) ↔ (0 ≤ p ∧ p < 49) := lt_succ' 48 (by omega)
theorem ok_isWall {G N : Nat} {σ τ : xS} (h : RRn G N σ τ) (p : Int32) : OKp (iwlX σ p) (iwlM τ p) := by
  unfold iwlX iwlM
  by_cases hp : 0 ≤ p ∧ p ≤ 48
  · rw [if_neg (not_not_intro hp), if_pos (p4849.mp hp)]
    obtain ⟨q, hq, rfl⟩ := rle (k := 48) (by omega) hp
    refine ⟨?_, G, N, h⟩
    have hl := h.1.1.1.2.2.2 q (by omega)
    obtain ⟨b, hb, e⟩ := h.1.1.2.2.2.2 q (by omega)
    show (if xlushr (σ.2 100 0) (nI q) &&& 1 = 1 then (1 : Int32) else 0) = τ.1 10 (tn (nI q))
    rw [tn_nI (by omega)]
    by_cases h1 : τ.1 10 q = 1
    · rw [if_pos (hl.mpr h1), h1]
    · rw [if_neg (fun z => h1 (hl.mp z)), e]
      have : b ≠ 1 := fun z => h1 (by rw [e, z]; rfl)
      rw [show b = 0 by omega]
      rfl
  · rw [if_pos hp, if_neg (fun z => hp (p4849.mpr z))]
    exact no_p rk5 h
theorem ok_walkerOf {G N : Nat} {σ τ : xS} (h : RRn G N σ τ) (x y : Int32) : OKp (wkoX σ x y) (wkoM τ x y) := by
  obtain ⟨⟨hG, hN⟩, ⟨c1, c2⟩, ⟨c3, c4⟩⟩ := RRn_G h
  unfold wkoX wkoM
  rw [c3, c4]
  by_cases hx : 0 ≤ x ∧ x < nI N
  · by_cases hy : 0 ≤ y ∧ y ≤ 6
    · rw [if_neg (show ¬ (¬ (0 ≤ x ∧ x < nI N) ∨ ¬ (0 ≤ y ∧ y ≤ 6)) from fun q => q.elim (fun z => z hx) (fun z => z hy)), if_neg (show ¬ (¬ (0 ≤ x ∧ x < nI N) ∨ y < 0 ∨ 6 < y) from fun q => q.elim (fun z => z hx) (fun z => (nrg.mpr z) hy))]
      obtain ⟨w, hw, rfl⟩ := rgl (by omega) hx
      obtain ⟨m, hm, rfl⟩ := rle (k := 6) (by omega) hy
      have k := h.1.1.1.2.2.1 w hw
      rw [whoK_n (by omega), tn_nI (by omega)]
      have h60 : ∀ m, m < 7 → m ≠ 0 → ¬ nI m = 0 := fun m q1 q2 => nI_ne0 (by omega) (by omega)
      have h66 : ∀ m, m < 7 → m ≠ 6 → ¬ nI m = 6 := fun m q1 q2 q3 => q2 ((nI_eq (b := 6) (by omega) (by omega)).mp q3)
      by_cases e0 : m = 0
      · subst e0
        rw [if_pos nI_00]
        refine ⟨?_, G, N, h⟩
        show tldX σ (100 + 20 + w) (nI 0) = τ.1 11 w
        rw [tldX_n _ (by omega)]; exact k.1
      · rw [if_neg (h60 m (by omega) e0)]
        by_cases e6 : m = 6
        · subst e6
          rw [if_pos (show nI 6 = 6 from rfl)]
          refine ⟨?_, G, N, h⟩
          show tldX σ (100 + 20 + w) (nI 6) = τ.1 12 w
          rw [tldX_n _ (by omega)]; exact k.2.2.2.2.2.2
        · rw [if_neg (h66 m (by omega) e6)]
          refine ⟨?_, G, N, h⟩
          show tldX σ (100 + 20 + w) (nI m) = ofM τ w (nI m - 1)
          obtain ⟨m', rfl⟩ : ∃ m', m = m' + 1 := ⟨m - 1, by omega⟩
          have e : nI (m' + 1) - 1 = nI m' := by rw [← nI_1, Int32.add_sub_cancel]
          rw [e, ← nI_1]
          exact tld_of k (by omega)
    · rw [if_pos (show ¬ (0 ≤ x ∧ x < nI N) ∨ ¬ (0 ≤ y ∧ y ≤ 6) from Or.inr hy), if_pos (show ¬ (0 ≤ x ∧ x < nI N) ∨ y < 0 ∨ 6 < y from Or.inr (nrg.mp hy))]
      exact no_p rk5 h
  · rw [if_pos (show ¬ (0 ≤ x ∧ x < nI N) ∨ ¬ (0 ≤ y ∧ y ≤ 6) from Or.inl hx), if_pos (show ¬ (0 ≤ x ∧ x < nI N) ∨ y < 0 ∨ 6 < y from Or.inl hx)]
    exact no_p rk5 h
theorem ok_gaitOf {G N : Nat} {σ τ : xS} (h : RRn G N σ τ) (g x : Int32) : OKp (gofX σ g x) (gofM τ g x) := by
  obtain ⟨⟨hG, hN⟩, ⟨c1, c2⟩, ⟨c3, c4⟩⟩ := RRn_G h
  unfold gofX gofM
  rw [c1, c2]
  by_cases hg : 0 ≤ g ∧ g < nI G
  · obtain ⟨g', hg', rfl⟩ := rgl (by omega) hg
    rw [gaiK_n (by omega), tn_nI (by omega), if_neg (not_not_intro hg)]
    obtain ⟨t1, t2, t3⟩ := h.1.1.1.2.1 g' hg'
    obtain ⟨l, a, ⟨l1, l2, l3⟩, f1, f2, f3⟩ := h.1.1.2.2.1 g' hg'
    rw [t1, t2, f1, f2]
    rw [f1, tn_nI (by omega)] at t3
    by_cases hlo : x < -2
    · rw [if_pos (show ¬ (0 ≤ nI g' ∧ nI g' < nI G) ∨ x < -2 ∨ nI l ≤ x from Or.inr (Or.inl hlo))]
      have n1 : ¬ x = -1 := fun e => by rw [e] at hlo; exact absurd hlo (by decide)
      have n2 : ¬ x = -2 := fun e => by rw [e] at hlo; exact absurd hlo (by decide)
      have n3 : ¬ (0 ≤ x ∧ x < nI l) := fun q => absurd (Int32.lt_of_le_of_lt q.1 hlo) (by decide)
      rw [if_neg n1, if_neg n2, if_neg n3]
      exact nt_p rk15 (by decide) h
    · by_cases hhi : nI l ≤ x
      · rw [if_pos (show ¬ (0 ≤ nI g' ∧ nI g' < nI G) ∨ x < -2 ∨ nI l ≤ x from Or.inr (Or.inr hhi))]
        have h0 := nI_pos' (n := l) (by omega)
        have n1 : ¬ x = -1 := fun e => by rw [e] at hhi; exact absurd (Int32.le_trans h0 hhi) (by decide)
        have n2 : ¬ x = -2 := fun e => by rw [e] at hhi; exact absurd (Int32.le_trans h0 hhi) (by decide)
        have n3 : ¬ (0 ≤ x ∧ x < nI l) := fun q => Int32.not_lt.mpr hhi q.2
        rw [if_neg n1, if_neg n2, if_neg n3]
        exact nt_p rk15 (by decide) h
      · rw [if_neg (show ¬ (¬ (0 ≤ nI g' ∧ nI g' < nI G) ∨ x < -2 ∨ nI l ≤ x) from fun q => q.elim (fun z => z hg) (fun z => z.elim hlo hhi))]
        by_cases n1 : x = -1
        · rw [if_pos n1, if_pos n1]
          exact ⟨rfl, G, N, h⟩
        · rw [if_neg n1, if_neg n1]
          by_cases n2 : x = -2
          · rw [if_pos n2, if_pos (show x < 0 by rw [n2]; decide)]
            exact ⟨rfl, G, N, h⟩
          · have a1 := t_le.mp (Int32.not_lt.mp hlo)
            have e1 : (-1 : Int32).toInt = -1 := rfl
            have e2 : (-2 : Int32).toInt = -2 := rfl
            have a2 : x.toInt ≠ -1 := fun e => n1 (Int32.toInt_inj.mp (e.trans e1.symm))
            have a3 : x.toInt ≠ -2 := fun e => n2 (Int32.toInt_inj.mp (e.trans e2.symm))
            rw [e2] at a1
            have h0 : 0 ≤ x := by rw [t_le, t_0]; omega
            have hlt : x < nI l := Int32.not_le.mp hhi
            rw [if_neg n2, if_neg (Int32.not_lt.mpr h0), if_pos ⟨h0, hlt⟩]
            obtain ⟨m, hm, rfl⟩ := rgl (by omega) ⟨h0, hlt⟩
            refine ⟨?_, G, N, h⟩
            show xshr (σ.1 (100 + 10 + g') 2) (2 * nI m) &&& 3 = τ.1 7 (tn (8 * nI g' + nI m))
            rw [t3 m hm, tn8g (by omega) (by omega)]
  · rw [if_pos (show ¬ (0 ≤ g ∧ g < nI G) ∨ x < -2 ∨ σ.1 (gaiK 100 g) 0 ≤ x from Or.inl hg), if_pos hg]
    exact nt_p rk15 (by decide) h
theorem ok_walker {G N : Nat} {σ τ : xS} (h : RRn G N σ τ) (k p d g a : Int32) : OKp (wlkX σ k p d g a) (wlkM τ k p d g a) := by
  obtain ⟨⟨hG, hN⟩, ⟨c1, c2⟩, ⟨c3, c4⟩⟩ := RRn_G h
  unfold wlkX wlkM
  rw [c1, c2, c3, c4]
  by_cases h1 : ¬ (0 ≤ k ∧ k ≤ 6) ∨ ¬ (0 ≤ g ∧ g < nI G)
  · have h1' : k < 0 ∨ 6 < k ∨ ¬ (0 ≤ g ∧ g < nI G) := h1.elim (fun z => (nrg.mp z).elim Or.inl (fun y => Or.inr (Or.inl y))) (fun z => Or.inr (Or.inr z))
    rw [if_pos h1, if_pos h1']
    exact no_p rk1 h
  · have h1' : ¬ (k < 0 ∨ 6 < k ∨ ¬ (0 ≤ g ∧ g < nI G)) := fun q => h1 (q.elim (fun z => Or.inl (nrg.mpr (Or.inl z))) (fun z => z.elim (fun y => Or.inl (nrg.mpr (Or.inr y))) Or.inr))
    rw [if_neg h1, if_neg h1']
    obtain ⟨k', hk, rfl⟩ := rle (k := 6) (by omega) (Classical.not_not.mp (fun q => h1 (Or.inl q)))
    obtain ⟨g', hg, rfl⟩ := rgl (by omega) (Classical.not_not.mp (fun q => h1 (Or.inr q)))
    by_cases h2 : (0 ≤ p ∧ p ≤ 48) ∧ (0 ≤ d ∧ d ≤ 3) ∧ (0 ≤ a ∧ a ≤ 9)
    · obtain ⟨hp, hd, ha⟩ := h2
      obtain ⟨p', hp', rfl⟩ := rle (k := 48) (by omega) hp
      obtain ⟨d', hd', rfl⟩ := rle (k := 3) (by omega) hd
      have hl := h.1.1.1.2.2.2 p' (by omega)
      rw [tn_nI (i := p') (by omega)]
      by_cases h3 : τ.1 10 p' = 1
      · rw [if_pos (show ¬ (0 ≤ nI p' ∧ nI p' ≤ 48) ∨ ¬ (0 ≤ nI d' ∧ nI d' ≤ 3) ∨ ¬ (0 ≤ a ∧ a ≤ 9) ∨ xlushr (σ.2 100 0) (nI p') &&& 1 = 1 from Or.inr (Or.inr (Or.inr (hl.mpr h3)))), if_pos (show ¬ (0 ≤ nI p' ∧ nI p' < 49) ∨ nI d' < 0 ∨ 3 < nI d' ∨ a < 0 ∨ 9 < a ∨ τ.1 10 p' = 1 from Or.inr (Or.inr (Or.inr (Or.inr (Or.inr h3)))))]
        exact no_p rk6 h
      · rw [if_neg (show ¬ (¬ (0 ≤ nI p' ∧ nI p' ≤ 48) ∨ ¬ (0 ≤ nI d' ∧ nI d' ≤ 3) ∨ ¬ (0 ≤ a ∧ a ≤ 9) ∨ xlushr (σ.2 100 0) (nI p') &&& 1 = 1) from fun q => by
          rcases q with q | q | q | q
          · exact q hp
          · exact q hd
          · exact q ha
          · exact h3 (hl.mp q)), if_neg (show ¬ (¬ (0 ≤ nI p' ∧ nI p' < 49) ∨ nI d' < 0 ∨ 3 < nI d' ∨ a < 0 ∨ 9 < a ∨ τ.1 10 p' = 1) from fun q => by
          rcases q with q | q | q | q | q | q
          · exact q (p4849.mp hp)
          · exact (nrg.mpr (Or.inl q)) hd
          · exact (nrg.mpr (Or.inr q)) hd
          · exact (nrg.mpr (Or.inl q)) ha
          · exact (nrg.mpr (Or.inr q)) ha
          · exact h3 q)]
        by_cases h6 : N = 6
        · have e6 : nI N = 6 := by rw [h6]; rfl
          rw [if_neg (show ¬ nI N < 6 by rw [e6]; decide), if_pos e6]
          exact no_p rk7 h
        · have e6 : ¬ nI N = 6 := fun q => h6 ((nI_eq (b := 6) (by omega) (by omega)).mp q)
          rw [if_pos (show nI N < 6 from (nI_ltI (b := 6) (by omega) (by omega)).mpr (by omega)), if_neg e6, tn_nI (i := N) (by omega)]
          exact ⟨rfl, G, N + 1, RRn_add h (by omega) (by omega) (by omega) (by omega) hg⟩
    · have hX : ¬ (0 ≤ p ∧ p ≤ 48) ∨ ¬ (0 ≤ d ∧ d ≤ 3) ∨ ¬ (0 ≤ a ∧ a ≤ 9) := by
        by_cases q1 : 0 ≤ p ∧ p ≤ 48
        · by_cases q2 : 0 ≤ d ∧ d ≤ 3
          · exact Or.inr (Or.inr (fun z => h2 ⟨q1, q2, z⟩))
          · exact Or.inr (Or.inl q2)
        · exact Or.inl q1
      rw [if_pos (show ¬ (0 ≤ p ∧ p ≤ 48) ∨ ¬ (0 ≤ d ∧ d ≤ 3) ∨ ¬ (0 ≤ a ∧ a ≤ 9) ∨ xlushr (σ.2 100 0) p &&& 1 = 1 from hX.elim Or.inl (fun z => Or.inr (z.elim Or.inl (fun y => Or.inr (Or.inl y))))), if_pos (show ¬ (0 ≤ p ∧ p < 49) ∨ d < 0 ∨ 3 < d ∨ a < 0 ∨ 9 < a ∨ τ.1 10 (tn p) = 1 from by
        rcases hX with q | q | q
        · exact Or.inl (fun z => q (p4849.mpr z))
        · exact (nrg.mp q).elim (fun z => Or.inr (Or.inl z)) (fun z => Or.inr (Or.inr (Or.inl z)))
        · exact (nrg.mp q).elim (fun z => Or.inr (Or.inr (Or.inr (Or.inl z)))) (fun z => Or.inr (Or.inr (Or.inr (Or.inr (Or.inl z))))))]
      exact no_p rk6 h
theorem ok_trace {G N : Nat} {σ τ : xS} (h : RRn G N σ τ) (i : Int32) : traX σ i = traM τ i := by
  obtain ⟨a1, a2, a3⟩ := h.2.2.2.2.1
  unfold traX traM
  rw [a1]
  by_cases hi : 0 ≤ i ∧ i < 20
  · obtain ⟨n, hn, rfl⟩ := rgl (n := 20) (by omega) hi
    by_cases hl : nI n < τ.1 0 48
    · rw [if_pos ⟨hi.1, hl, hi.2⟩, if_pos ⟨hi.1, hi.2, hl⟩, tn_nI (by omega)]
      exact a3 n hn hl
    · rw [if_neg (fun q => hl q.2.1), if_neg (fun q => hl q.2.2)]
  · rw [if_neg (fun q => hi ⟨q.1, q.2.2⟩), if_neg (fun q => hi ⟨q.1, q.2.1⟩)]
theorem ok_fault {G N : Nat} {σ τ : xS} (h : RRn G N σ τ) : σ.1 0 10 = τ.1 0 5 := h.2.2.2.1
/-! shelves -/
theorem sh_c {N s : Nat} {σ τ : xS} (hN : N ≤ 6) (h : SHr N σ τ s) : (τ.1 23 s = 0 ∧ σ.1 (10 + s) 0 = -1 ∧ wnr σ (10 + s) = -3) ∨ (τ.1 23 s = 1 ∧ (∃ o, o < 4 ∧ τ.1 24 s = nI o ∧ σ.1 (10 + s) 0 = nI (100 + o)) ∧ wnr σ (10 + s) = 0) ∨ (τ.1 23 s = 2 ∧ (∃ w, w < N ∧ τ.1 26 s = nI w ∧ σ.1 (10 + s) 0 = nI w) ∧ wnr σ (10 + s) = -2) := by
  obtain ⟨-, -, h⟩ := h
  have e100 : (100 : Int32) = nI 100 := rfl
  rcases h with ⟨b1, b2⟩ | ⟨b1, ⟨o, o4, b2, b3⟩, b4, b5⟩ | ⟨b1, w, hw, b2, b3⟩
  · refine Or.inl ⟨b1, b2, ?_⟩
    unfold wnr
    rw [b2]; decide
  · refine Or.inr (Or.inl ⟨b1, ⟨o, o4, b2, b3⟩, ?_⟩)
    unfold wnr
    have ca : ¬ (0 ≤ nI (100 + o) ∧ nI (100 + o) < 100) := fun q => by
      have := (nI_ltI (a := 100 + o) (b := 100) (by omega) (by omega)).mp q.2
      omega
    have cb : (100 : Int32) ≤ nI (100 + o) := (nI_leI (a := 100) (b := 100 + o) (by omega) (by omega)).mpr (by omega)
    rw [b3, if_neg ca, if_pos cb]
  · refine Or.inr (Or.inr ⟨b1, ⟨w, hw, b2, b3⟩, ?_⟩)
    unfold wnr
    rw [b3, if_pos ⟨nI_pos' (by omega), (nI_ltI (b := 100) (by omega) (by omega)).mpr (by omega)⟩]
theorem wt_eq {G N : Nat} {σ τ : xS} (h : RRn G N σ τ) {s : Nat} (hs : s < 8) : wtM τ (nI s) = wnr σ (10 + s) := by
  have h8 : 0 ≤ nI s ∧ nI s < 8 := ⟨nI_pos' (by omega), (nI_ltI (b := 8) (by omega) (by omega)).mpr hs⟩
  unfold wtM
  rw [if_neg (not_not_intro h8), tn_nI (by omega)]
  rcases sh_c (RRn_G h).1.2 (h.2.1 s hs) with ⟨b1, b2, b3⟩ | ⟨b1, -, b3⟩ | ⟨b1, -, b3⟩
  · rw [b1, b3]; decide
  · rw [b1, b3]; decide
  · rw [b1, b3]; decide
theorem ok_holds {G N : Nat} {σ τ : xS} (h : RRn G N σ τ) (s : Int32) : hldX σ s = hldM τ s := by
  unfold hldX hldM
  by_cases hs : 0 ≤ s ∧ s < 8
  · obtain ⟨s', hs', rfl⟩ := rgl (n := 8) (by omega) hs
    rw [if_pos hs, if_neg (not_not_intro hs), tn_nI (by omega)]
    rcases sh_c (RRn_G h).1.2 (h.2.1 s' hs') with ⟨b1, b2, b3⟩ | ⟨b1, ⟨o, o4, b4, b5⟩, b3⟩ | ⟨b1, ⟨w, hw, b4, b5⟩, b3⟩
    · rw [b1, b2, if_pos rfl]
    · rw [b1, if_neg (by decide), if_pos rfl, b4, b5, show (100 : Int32) = nI 100 from rfl, nI_add]
    · rw [b1, if_neg (by decide), if_neg (by decide), b4, b5]
  · rw [if_neg hs, if_pos hs]
theorem RRn_sh {G N s : Nat} {σ σ' τ τ' : xS} (h : RRn G N σ τ) (hs : s < 8) (hk : SHr N σ' τ' s) (hx : ∀ a b, a ≠ 10 + s → σ'.1 a b = σ.1 a b) (hx2 : ∀ a b, a ≠ 20 + s → σ'.2 a b = σ.2 a b) (hm : ∀ a c, ¬ (23 ≤ a ∧ a ≤ 26 ∧ c = s) → τ'.1 a c = τ.1 a c) (hm2 : ∀ c, ¬ (160 * s ≤ c ∧ c < 160 * s + 160) → τ'.2 27 c = τ.2 27 c) : RRn G N σ' τ' := by
  obtain ⟨h1, h2, h3, h4, ⟨h5, h6, h7⟩, h8, h9⟩ := h
  refine ⟨TA_v (fun c q => hm 0 c (by omega)) (fun a c q1 q2 => hm a c (by omega)) (fun a w q1 q2 q3 => hm a w (by omega)) (TA_c (fun a b q1 q2 => hx a b (by omega)) (hx2 _ _ (by omega)) h1), fun s' hs' => ?_, fun k q1 q2 => ?_, ?_, ⟨?_, ?_, fun i hi hl => ?_⟩, IMr_f (hx _ _ (by omega)) (fun a b q1 q2 => hx a b (by omega)) (hx2 _ _ (by omega)) (hm 0 49 (by omega)) (fun c => hm 39 c (by omega)) h8, fun j hj => ?_⟩
  · by_cases e : s' = s
    · rw [e]; exact hk
    · obtain ⟨⟨a1, a2⟩, a3, h⟩ := h2 s' hs'
      have mm : ∀ a, τ'.1 a s' = τ.1 a s' := fun a => hm a s' (by omega)
      have xx : ∀ b, σ'.1 (10 + s') b = σ.1 (10 + s') b := fun b => hx _ _ (by omega)
      unfold SHr
      simp only [xx, mm]
      refine ⟨⟨a1, a2⟩, a3, ?_⟩
      rcases h with b | ⟨b1, b2, b4, b5⟩ | b
      · exact Or.inl b
      · refine Or.inr (Or.inl ⟨b1, b2, b4, fun i hi => ?_⟩)
        have hi160 : i < 160 := by
          have r2 := t_le.mp a2
          rw [t_160] at r2
          rw [t_tn] at hi
          omega
        rw [hx2 _ _ (by omega), hm2 _ (by omega)]
        exact b5 i hi
      · exact Or.inr (Or.inr b)
  · rw [hx _ _ (by omega), hm 6 k (by omega)]; exact h3 k q1 q2
  · rw [hx _ _ (by omega), hm 0 5 (by omega)]; exact h4
  · rw [hx _ _ (by omega), hm 0 48 (by omega)]; exact h5
  · rw [hm 0 48 (by omega)]; exact h6
  · rw [hm 0 48 (by omega)] at hl
    rw [hx _ _ (by omega), hm 47 i (by omega)]; exact h7 i hi hl
  · rw [hm 29 j (by omega)]; exact h9 j hj
theorem ok_show {G N : Nat} {σ τ : xS} (h : RRn G N σ τ) (s x : Int32) : OKp (showX σ s x) (showM τ s x) := by
  obtain ⟨⟨hG, hN⟩, ⟨c1, c2⟩, ⟨c3, c4⟩⟩ := RRn_G h
  unfold showX showM
  rw [c3, c4]
  by_cases hc : (0 ≤ s ∧ s < 8) ∧ (x = -1 ∨ (0 ≤ x ∧ x < nI N))
  · obtain ⟨hs, hx⟩ := hc
    have hc' : ¬ (¬ (0 ≤ s ∧ s < 8) ∨ (¬ x = -1 ∧ ¬ (0 ≤ x ∧ x < nI N))) := fun q => q.elim (fun z => z hs) (fun z => hx.elim z.1 z.2)
    rw [if_pos ⟨hs, hx⟩, if_neg hc']
    obtain ⟨s', hs', rfl⟩ := rgl (n := 8) (by omega) hs
    rw [tn_nI (by omega)]
    have hsh := h.2.1 s' hs'
    refine ⟨rfl, G, N, RRn_sh h hs' ?_ (fun a b q => by rw [xI_n (by omega), xI_n (by omega)]) (fun _ _ _ => rfl) (fun a c q => by rw [xI_n (by omega), xI_n (by omega)]) (fun _ _ => rfl)⟩
    have e25 : (xI (xI τ 23 s' (if x = -1 then 0 else 2)) 26 s' x).1 25 s' = τ.1 25 s' := by rw [xI_n (by omega), xI_n (by omega)]
    have e23 : (xI (xI τ 23 s' (if x = -1 then 0 else 2)) 26 s' x).1 23 s' = if x = -1 then 0 else 2 := by rw [xI_n (by omega), xI_s]
    have e26 : (xI (xI τ 23 s' (if x = -1 then 0 else 2)) 26 s' x).1 26 s' = x := xI_s
    have x0 : (xI (xI σ (10 + s') 0 x) (10 + s') 1 0).1 (10 + s') 0 = x := by rw [xI_n (by omega), xI_s]
    have x1 : (xI (xI σ (10 + s') 0 x) (10 + s') 1 0).1 (10 + s') 1 = 0 := xI_s
    unfold SHr
    rw [e25, e23, e26, x0, x1]
    refine ⟨hsh.1, ⟨by decide, Or.inr rfl⟩, ?_⟩
    by_cases e : x = -1
    · rw [if_pos e]
      exact Or.inl ⟨rfl, e⟩
    · rw [if_neg e]
      obtain ⟨w, hw, rfl⟩ := rgl (by omega) (hx.resolve_left e)
      exact Or.inr (Or.inr ⟨rfl, w, hw, rfl, rfl⟩)
  · have hc' : ¬ (0 ≤ s ∧ s < 8) ∨ (¬ x = -1 ∧ ¬ (0 ≤ x ∧ x < nI N)) := by
      by_cases q : 0 ≤ s ∧ s < 8
      · exact Or.inr ⟨fun z => hc ⟨q, Or.inl z⟩, fun z => hc ⟨q, Or.inr z⟩⟩
      · exact Or.inl q
    rw [if_neg hc, if_pos hc']
    exact no_p rk1 h
