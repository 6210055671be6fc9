/-! rows, side by side -/
theorem shs {s : Int32} (h : 0 ≤ s ∧ s < 8) : ∃ n, n < 8 ∧ s = nI n := rgl (n := 8) (by omega) h
theorem ok_element {G N : Nat} {σ τ : xS} (h : RRn G N σ τ) (s i : Int32) : elX σ s i = elM τ s i := by
  unfold elX elM
  by_cases hs : 0 ≤ s ∧ s < 8
  · obtain ⟨s', hs', rfl⟩ := shs hs
    have hsh := h.2.1 s' hs'
    rw [if_pos hs, tn_nI (by omega)]
    obtain ⟨⟨a1, a2⟩, a3, hd⟩ := hsh
    by_cases h1 : τ.1 23 s' = 1
    · obtain ⟨o, e4, e5⟩ : (∃ o, o < 4 ∧ τ.1 24 s' = nI o ∧ σ.1 (10 + s') 0 = nI (100 + o)) ∧ σ.1 (10 + s') 1 = τ.1 25 s' ∧ ∀ i, i < tn (τ.1 25 s') → σ.2 (20 + s') i = τ.2 27 (160 * s' + i) := by
        rcases hd with ⟨b1, -⟩ | ⟨b1, b2⟩ | ⟨b1, -⟩
        · rw [b1] at h1; exact absurd h1 (by decide)
        · exact b2
        · rw [b1] at h1; exact absurd h1 (by decide)
      by_cases hi : 0 ≤ i ∧ i < τ.1 25 s'
      · have h160 : i < 160 := Int32.lt_of_lt_of_le hi.2 a2
        rw [if_pos ⟨hi.1, by rw [e4]; exact hi.2, h160⟩, if_pos ⟨hs, h1, hi.1, hi.2⟩]
        obtain ⟨j, hj, rfl⟩ := rgl (n := 160) (by omega) ⟨hi.1, h160⟩
        have hjl : j < tn (τ.1 25 s') := by
          have := t_lt.mp hi.2
          rw [t_nI (by omega)] at this
          rw [t_tn]
          omega
        rw [tn_nI (i := j) (by omega), ixn hs, tn_nI (i := s') (by omega), tn_nI (i := 160 * s' + j) (by omega), show 10 + s' + 10 = 20 + s' by omega]
        exact e5 j hjl
      · rw [if_neg (fun q => hi ⟨q.1, by rw [← e4]; exact q.2.1⟩), if_neg (fun q => hi ⟨q.2.2.1, q.2.2.2⟩)]
    · have e0 := a3.2.resolve_left h1
      rw [if_neg (show ¬ ((0 ≤ nI s' ∧ nI s' < 8) ∧ τ.1 23 s' = 1 ∧ 0 ≤ i ∧ i < τ.1 25 s') from fun q => h1 q.2.1), if_neg (fun q => by rw [e0] at q; exact Int32.not_lt.mpr q.1 q.2.1)]
  · rw [if_neg hs, if_neg (fun q => hs q.1)]
theorem RRn_row {G N s o n : Nat} {σ τ : xS} (h : RRn G N σ τ) (hs : s < 8) (ho : o < 4) (hn : n ≤ 160) : RRn G N (bgnX σ (10 + s) (nI o) (nI n)) (rzM (160 * s) 160 (xI (xI (xI τ 23 s 1) 24 s (nI o)) 25 s (nI n))) := by
  obtain ⟨M, hM⟩ : ∃ M : Nat, M = 160 := ⟨_, rfl⟩
  have hx0 : (bgnX σ (10 + s) (nI o) (nI n)).1 (10 + s) 0 = nI (100 + o) := by
    show (xI (xI σ (10 + s) 0 (100 + nI o)) (10 + s) 1 (nI n)).1 (10 + s) 0 = _
    rw [xI_n (by omega), xI_s, show (100 : Int32) = nI 100 from rfl, nI_add]
  have hx1 : (bgnX σ (10 + s) (nI o) (nI n)).1 (10 + s) 1 = nI n := by
    show (xI (xI σ (10 + s) 0 (100 + nI o)) (10 + s) 1 (nI n)).1 (10 + s) 1 = _
    rw [xI_s]
  have hxo : ∀ a b, a ≠ 10 + s → (bgnX σ (10 + s) (nI o) (nI n)).1 a b = σ.1 a b := fun a b q => by
    show (xI (xI σ (10 + s) 0 (100 + nI o)) (10 + s) 1 (nI n)).1 a b = _
    rw [xI_n (by omega), xI_n (by omega)]
  have hx2 : ∀ a b, a ≠ 20 + s → (bgnX σ (10 + s) (nI o) (nI n)).2 a b = σ.2 a b := fun a b q => by
    unfold bgnX
    rw [xJs_ne _ _ (by omega)]
    rfl
  have hx2s : ∀ i, i < n → (bgnX σ (10 + s) (nI o) (nI n)).2 (20 + s) i = 0 := fun i hi => by
    unfold bgnX
    rw [show 10 + s + 10 = 20 + s by omega, xJs_self, tn_nI (by omega), if_pos (by omega)]
  have m1 : ∀ a c, ¬ (23 ≤ a ∧ a ≤ 26 ∧ c = s) → (rzM (160 * s) M (xI (xI (xI τ 23 s 1) 24 s (nI o)) 25 s (nI n))).1 a c = τ.1 a c := fun a c q => by
    show (xI (xI (xI τ 23 s 1) 24 s (nI o)) 25 s (nI n)).1 a c = _
    rw [xI_n (by omega), xI_n (by omega), xI_n (by omega)]
  have m23 : (rzM (160 * s) M (xI (xI (xI τ 23 s 1) 24 s (nI o)) 25 s (nI n))).1 23 s = 1 := by
    show (xI (xI (xI τ 23 s 1) 24 s (nI o)) 25 s (nI n)).1 23 s = _
    rw [xI_n (by omega), xI_n (by omega), xI_s]
  have m24 : (rzM (160 * s) M (xI (xI (xI τ 23 s 1) 24 s (nI o)) 25 s (nI n))).1 24 s = nI o := by
    show (xI (xI (xI τ 23 s 1) 24 s (nI o)) 25 s (nI n)).1 24 s = _
    rw [xI_n (by omega), xI_s]
  have m25 : (rzM (160 * s) M (xI (xI (xI τ 23 s 1) 24 s (nI o)) 25 s (nI n))).1 25 s = nI n := xI_s
  have m2 : ∀ c, (rzM (160 * s) M (xI (xI (xI τ 23 s 1) 24 s (nI o)) 25 s (nI n))).2 27 c = if 160 * s ≤ c ∧ c < 160 * s + M then 0 else τ.2 27 c := fun c => by
    show (if 27 = 27 ∧ 160 * s ≤ c ∧ c < 160 * s + M then (0 : Int64) else τ.2 27 c) = _
    by_cases q : 160 * s ≤ c ∧ c < 160 * s + M
    · rw [if_pos ⟨rfl, q⟩, if_pos q]
    · rw [if_neg (fun z => q z.2), if_neg q]
  have fin : RRn G N (bgnX σ (10 + s) (nI o) (nI n)) (rzM (160 * s) M (xI (xI (xI τ 23 s 1) 24 s (nI o)) 25 s (nI n))) := by
    generalize rzM (160 * s) M (xI (xI (xI τ 23 s 1) 24 s (nI o)) 25 s (nI n)) = U at *
    generalize bgnX σ (10 + s) (nI o) (nI n) = S at *
    have h0 : 0 ≤ nI n := nI_pos' (by omega)
    refine RRn_sh h hs ⟨⟨by rw [m25]; exact h0, by rw [m25]; exact (nI_leI (b := 160) (by omega) (by omega)).mpr hn⟩, ⟨by rw [hx1]; exact h0, Or.inl m23⟩, Or.inr (Or.inl ⟨m23, ⟨o, ho, m24, hx0⟩, by rw [hx1, m25], fun i hi => ?_⟩)⟩ hxo hx2 m1 (fun c q => by rw [m2, if_neg (by omega)])
    rw [m25, tn_nI (by omega)] at hi
    rw [hx2s i hi, m2, if_pos (by omega)]
  rw [hM] at fin
  exact fin
theorem ok_row {G N : Nat} {σ τ : xS} (h : RRn G N σ τ) (s o n : Int32) : OKp (rowX σ s o n) (rowM τ s o n) := by
  unfold rowX rowM
  by_cases hs : 0 ≤ s ∧ s < 8
  · rw [if_pos hs, if_neg (not_not_intro hs)]
    by_cases hn : n < 0
    · rw [if_pos hn, if_pos hn]
      exact no_p rk4 h
    · rw [if_neg hn, if_neg hn]
      by_cases ho : o < 0 ∨ 4 ≤ o
      · have ho' : o < 0 ∨ 3 < o := ho.imp id (fun z => Int32.lt_of_lt_of_le (by decide) z)
        rw [if_pos ho, if_pos ho']
        exact no_p rk6 h
      · have ho1 : 0 ≤ o := Int32.not_lt.mp (fun z => ho (Or.inl z))
        have ho2 : o < 4 := Int32.not_le.mp (fun z => ho (Or.inr z))
        obtain ⟨o', ho4, rfl⟩ := rgl (n := 4) (by omega) ⟨ho1, ho2⟩
        have ho' : ¬ (nI o' < 0 ∨ 3 < nI o') := fun q => q.elim (fun z => ho (Or.inl z)) (fun z => by
          have := (nI_ltI (a := 3) (by omega) (by omega)).mp z
          omega)
        rw [if_neg ho, if_neg ho']
        by_cases h160 : 160 < n
        · rw [if_pos h160, if_pos h160]
          exact no_p rk7 h
        · rw [if_neg h160, if_neg h160]
          obtain ⟨s', hs', rfl⟩ := shs hs
          obtain ⟨n', hn', rfl⟩ := rle (k := 160) (by omega) ⟨Int32.not_lt.mp hn, Int32.not_lt.mp h160⟩
          rw [tn_nI (by omega)]
          exact ⟨rfl, G, N, RRn_row h hs' ho4 hn'⟩
  · rw [if_neg hs, if_pos hs]
    exact no_p rk1 h
theorem cut_eq {o : Nat} (ho : o < 4) (v : Int64) : xcut64 (nI (100 + o)) v = cutM (nI o) v := by
  have e : nI (100 + o) - 100 = nI o := by rw [show (100 : Int32) = nI 100 from rfl, pk_sub (by omega), Nat.add_sub_cancel_left]
  unfold xcut64 cutM
  rw [e]
theorem sh_row {N s : Nat} {σ τ : xS} (h : SHr N σ τ s) (h1 : τ.1 23 s = 1) : (∃ o, o < 4 ∧ τ.1 24 s = nI o ∧ σ.1 (10 + s) 0 = nI (100 + o)) ∧ σ.1 (10 + s) 1 = τ.1 25 s ∧ ∀ i, i < tn (τ.1 25 s) → σ.2 (20 + s) i = τ.2 27 (160 * s + i) := by
  obtain ⟨-, -, hd⟩ := h
  rcases hd with ⟨b1, -⟩ | ⟨b1, b2⟩ | ⟨b1, -⟩
  · rw [b1] at h1; exact absurd h1 (by decide)
  · exact b2
  · rw [b1] at h1; exact absurd h1 (by decide)
theorem ok_set {G N : Nat} {σ τ : xS} (h : RRn G N σ τ) (s i : Int32) (v : Int64) : OKp (setX σ s i v) (setM τ s i v) := by
  unfold setX setM
  by_cases hs : 0 ≤ s ∧ s < 8
  · rw [if_pos hs, if_neg (not_not_intro hs)]
    obtain ⟨s', hs', rfl⟩ := shs hs
    rw [tn_nI (i := s') (by omega)]
    have hsh := h.2.1 s' hs'
    rcases sh_c (RRn_G h).1.2 hsh with ⟨b1, b2, b3⟩ | ⟨b1, -, b3⟩ | ⟨b1, -, b3⟩
    · rw [b3, b1, if_neg (by decide), if_neg (by decide), if_pos rfl]
      exact no_p rk3 h
    · obtain ⟨⟨o, o4, e1, e2⟩, e4, e5⟩ := sh_row hsh b1
      rw [b3, b1, if_pos (rfl : (0 : Int32) = 0), if_neg (show ¬ (1 : Int32) = 2 by decide), if_neg (show ¬ (1 : Int32) = 0 by decide), e4, e2, e1]
      by_cases hi : 0 ≤ i ∧ i < τ.1 25 s'
      · have h160 : i < 160 := Int32.lt_of_lt_of_le hi.2 hsh.1.2
        have hi' : ¬ (i < 0 ∨ τ.1 25 s' ≤ i) := fun q => q.elim (fun z => Int32.not_lt.mpr hi.1 z) (fun z => Int32.not_le.mpr hi.2 z)
        rw [if_pos ⟨hi.1, hi.2, h160⟩, if_neg hi']
        obtain ⟨j, hj, rfl⟩ := rgl (n := 160) (by omega) ⟨hi.1, h160⟩
        rw [ixn hs, tn_nI (i := j) (by omega), tn_nI (i := s') (by omega), tn_nI (by omega), cut_eq o4, show 10 + s' + 10 = 20 + s' by omega]
        refine ⟨rfl, G, N, RRn_sh h hs' ⟨hsh.1, ⟨hsh.2.1.1, Or.inl b1⟩, Or.inr (Or.inl ⟨b1, ⟨o, o4, e1, e2⟩, e4, fun k hk => ?_⟩)⟩ (fun _ _ _ => rfl) (fun a b q => by show (xJ σ (20 + s') j _).2 a b = _; rw [xJ_ne _ _ _ (by omega)]) (fun _ _ _ => rfl) (fun c q => ?_)⟩
        · have e5 := e5 k hk
          show (if 20 + s' = 20 + s' ∧ k = j then cutM (nI o) v else σ.2 (20 + s') k) = if 27 = 27 ∧ 160 * s' + k = 160 * s' + j then cutM (nI o) v else τ.2 27 (160 * s' + k)
          by_cases ek : k = j
          · rw [if_pos ⟨rfl, ek⟩, if_pos ⟨rfl, by omega⟩]
          · rw [if_neg (fun q => ek q.2), if_neg (fun q => ek (by omega))]
            exact e5
        · show (if 27 = 27 ∧ c = 160 * s' + j then cutM (nI o) v else τ.2 27 c) = _
          rw [if_neg (by omega)]
      · have hi' : i < 0 ∨ τ.1 25 s' ≤ i := by
          by_cases q : 0 ≤ i
          · exact Or.inr (Int32.not_lt.mp (fun z => hi ⟨q, z⟩))
          · exact Or.inl (Int32.not_le.mp q)
        rw [if_neg (fun q => hi ⟨q.1, q.2.1⟩), if_pos hi']
        exact no_p rk5 h
    · rw [b3, b1, if_neg (by decide), if_pos rfl]
      exact no_p rk2 h
  · rw [if_neg hs, if_pos hs]
    exact no_p rk1 h
