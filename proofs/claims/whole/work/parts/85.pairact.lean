/-! the acts -/
def AR (n K : Nat) (x a : Int32) (σ0 τ0 σ τ : xS) : Prop := (∃ m, m ≤ n ∧ σ.1 4 0 = nI m ∧ τ.1 0 48 = nI m ∧ ∀ i, i < 20 → i < m → σ.1 5 i = τ.1 47 i) ∧ (σ.1 4 1 = nI K ∧ σ.1 4 2 = x ∧ σ.1 4 3 = a) ∧ ((∀ c b, c ≠ 4 → c ≠ 5 → σ.1 c b = σ0.1 c b) ∧ σ.2 = σ0.2) ∧ ((∀ c b, (c ≠ 0 ∨ b ≠ 48) → c ≠ 47 → τ.1 c b = τ0.1 c b) ∧ τ.2 = τ0.2) ∧ (τ0.1 11 (tn x) = nI K ∧ τ0.1 12 (tn x) = a)
theorem n20 : ∀ m, m < 100 → ((0 ≤ nI m ∧ nI m < 20) ↔ m < 20) ∧ (nI m < 20 ↔ m < 20) := by decide +kernel
theorem AR_nt {n K : Nat} {x a : Int32} {σ0 τ0 σ τ : xS} (hn : n < 100) (h : AR n K x a σ0 τ0 σ τ) (b : Int32) : AR (n + 1) K x a σ0 τ0 (ntS σ b) (bdM τ b) := by
  obtain ⟨⟨m, h1, h2, h3, h4⟩, ⟨k1, k2, k3⟩, ⟨f1, f2⟩, ⟨g1, g2⟩, e⟩ := h
  obtain ⟨q1, q2⟩ := n20 m (by omega)
  unfold ntS bdM
  rw [h2, h3, tn_nI (by omega), nI_1]
  by_cases hm : m < 20
  · rw [if_pos (q1.mpr hm), if_pos (q2.mpr hm)]
    have w0 : (xI (xI σ 5 m b) 4 0 (nI (m + 1))).1 4 0 = nI (m + 1) := xI_s
    have u0 : (xI (xI τ 47 m b) 0 48 (nI (m + 1))).1 0 48 = nI (m + 1) := xI_s
    have w : ∀ c d, c ≠ 5 → (c ≠ 4 ∨ d ≠ 0) → (xI (xI σ 5 m b) 4 0 (nI (m + 1))).1 c d = σ.1 c d := fun c d q q' => by rw [xI_n (by omega), xI_n (by omega)]
    have u : ∀ c d, c ≠ 47 → (c ≠ 0 ∨ d ≠ 48) → (xI (xI τ 47 m b) 0 48 (nI (m + 1))).1 c d = τ.1 c d := fun c d q q' => by rw [xI_n (by omega), xI_n (by omega)]
    refine ⟨⟨m + 1, by omega, w0, u0, fun i hi hl => ?_⟩, ⟨(w 4 1 (by omega) (by omega)).trans k1, (w 4 2 (by omega) (by omega)).trans k2, (w 4 3 (by omega) (by omega)).trans k3⟩, ⟨fun c d q q' => (w c d q' (by omega)).trans (f1 c d q q'), f2⟩, ⟨fun c d q q' => (u c d q' q).trans (g1 c d q q'), g2⟩, e⟩
    by_cases ei : i = m
    · rw [ei, xI_n (by omega), xI_s, xI_n (by omega), xI_s]
    · rw [xI_n (by omega), xI_n (by omega), xI_n (by omega), xI_n (by omega)]; exact h4 i hi (by omega)
  · rw [if_neg (fun z => hm (q1.mp z)), if_neg (fun z => hm (q2.mp z))]
    have w0 : (xI σ 4 0 (nI (m + 1))).1 4 0 = nI (m + 1) := xI_s
    have u0 : (xI τ 0 48 (nI (m + 1))).1 0 48 = nI (m + 1) := xI_s
    have w : ∀ c d, (c ≠ 4 ∨ d ≠ 0) → (xI σ 4 0 (nI (m + 1))).1 c d = σ.1 c d := fun c d q' => by rw [xI_n (by omega)]
    have u : ∀ c d, (c ≠ 0 ∨ d ≠ 48) → (xI τ 0 48 (nI (m + 1))).1 c d = τ.1 c d := fun c d q' => by rw [xI_n (by omega)]
    refine ⟨⟨m + 1, by omega, w0, u0, fun i hi hl => ?_⟩, ⟨(w 4 1 (by omega)).trans k1, (w 4 2 (by omega)).trans k2, (w 4 3 (by omega)).trans k3⟩, ⟨fun c d q q' => (w c d (by omega)).trans (f1 c d q q'), f2⟩, ⟨fun c d q q' => (u c d q).trans (g1 c d q q'), g2⟩, e⟩
    rw [w _ _ (by omega), u _ _ (by omega)]; exact h4 i hi (by omega)
theorem AR_e {n K : Nat} {x a : Int32} {σ0 τ0 σ τ : xS} (h : AR n K x a σ0 τ0 σ τ) : (σ.1 4 1 = nI K ∧ σ.1 4 2 = x ∧ σ.1 4 3 = a) ∧ τ.1 11 (tn x) = nI K ∧ τ.1 12 (tn x) = a := ⟨h.2.1, (h.2.2.2.1.1 _ _ (by omega) (by omega)).trans h.2.2.2.2.1, (h.2.2.2.1.1 _ _ (by omega) (by omega)).trans h.2.2.2.2.2⟩
def rbB (k : Nat) (S : xS) (b x : Int32) : Int32 × xS :=
    if b = 10 then (x + S.1 4 2, S)
    else if b = 11 then ((rbF k S (S.1 4 1) 0 x).1 * 2, (rbF k S (S.1 4 1) 0 x).2)
    else if b = 12 then ((rbF k S (S.1 4 1) 1 x).1 ^^^ (rbF k (rbF k S (S.1 4 1) 1 x).2 ((rbF k S (S.1 4 1) 1 x).2.1 4 1) 0 (x - (rbF k S (S.1 4 1) 1 x).2.1 4 3)).1, (rbF k (rbF k S (S.1 4 1) 1 x).2 ((rbF k S (S.1 4 1) 1 x).2.1 4 1) 0 (x - (rbF k S (S.1 4 1) 1 x).2.1 4 3)).2)
    else if b = 20 then ((rbF k S 0 0 x).1 + (rbF k S 0 0 x).2.1 4 3, (rbF k S 0 0 x).2)
    else if b = 30 then ((rbF k S 0 1 x).1 * 3, (rbF k S 0 1 x).2)
    else if b = 40 then rbF k S 0 1 (x + 1)
    else if b = 50 then (- (rbF k S 3 2 x).1, (rbF k S 3 2 x).2)
    else if b = 51 then ((rbF k S 3 0 x).1 - (rbF k S 3 0 x).2.1 4 2, (rbF k S 3 0 x).2)
    else if b = 60 then ((rbF k S 1 2 x).1 ^^^ 5, (rbF k S 1 2 x).2)
    else if b = 70 then ((rbF k S 3 0 x).1 * 2, (rbF k S 3 0 x).2)
    else if b = 71 then rbF k S 3 1 (x - S.1 4 3)
    else (0, S)
theorem rb_s {k : Nat} {σ : xS} {fr ac x : Int32} : rbF (k + 1) σ fr ac x = rbB k (ntS σ (bfV fr ac)) (bfV fr ac) x := rfl
theorem rb_b {k : Nat} {σ : xS} {fr ac x b : Int32} (h : bfV fr ac = b) : rbF (k + 1) σ fr ac x = rbB k (ntS σ b) b x := by rw [rb_s, h]
theorem st10 {k : Nat} {σ : xS} {fr v : Int32} (h : bfV fr 0 = 10) : rbF (k + 1) σ fr 0 v = (v + (ntS σ 10).1 4 2, ntS σ 10) := rb_b h
theorem st20 {k : Nat} {σ : xS} {fr v : Int32} (h : bfV fr 0 = 20) : rbF (k + 2) σ fr 0 v = (v + (ntS (ntS σ 20) 10).1 4 2 + (ntS (ntS σ 20) 10).1 4 3, ntS (ntS σ 20) 10) := by
  rw [rb_b h]
  show ((rbF (k + 1) (ntS σ 20) 0 0 v).1 + (rbF (k + 1) (ntS σ 20) 0 0 v).2.1 4 3, (rbF (k + 1) (ntS σ 20) 0 0 v).2) = _
  rw [st10 (by decide)]
theorem st51 {k : Nat} {σ : xS} {fr v : Int32} (h : bfV fr 0 = 51) : rbF (k + 2) σ fr 0 v = (v + (ntS (ntS σ 51) 10).1 4 2 - (ntS (ntS σ 51) 10).1 4 2, ntS (ntS σ 51) 10) := by
  rw [rb_b h]
  show ((rbF (k + 1) (ntS σ 51) 3 0 v).1 - (rbF (k + 1) (ntS σ 51) 3 0 v).2.1 4 2, (rbF (k + 1) (ntS σ 51) 3 0 v).2) = _
  rw [st10 (by decide)]
theorem st70 {k : Nat} {σ : xS} {fr v : Int32} (h : bfV fr 0 = 70) : rbF (k + 2) σ fr 0 v = ((v + (ntS (ntS σ 70) 10).1 4 2) * 2, ntS (ntS σ 70) 10) := by
  rw [rb_b h]
  show ((rbF (k + 1) (ntS σ 70) 3 0 v).1 * 2, (rbF (k + 1) (ntS σ 70) 3 0 v).2) = _
  rw [st10 (by decide)]
theorem rb_11 {k : Nat} {S : xS} {x : Int32} : rbB k S 11 x = ((rbF k S (S.1 4 1) 0 x).1 * 2, (rbF k S (S.1 4 1) 0 x).2) := rfl
theorem rb_12 {k : Nat} {S : xS} {x : Int32} : rbB k S 12 x = ((rbF k S (S.1 4 1) 1 x).1 ^^^ (rbF k (rbF k S (S.1 4 1) 1 x).2 ((rbF k S (S.1 4 1) 1 x).2.1 4 1) 0 (x - (rbF k S (S.1 4 1) 1 x).2.1 4 3)).1, (rbF k (rbF k S (S.1 4 1) 1 x).2 ((rbF k S (S.1 4 1) 1 x).2.1 4 1) 0 (x - (rbF k S (S.1 4 1) 1 x).2.1 4 3)).2) := rfl
theorem rb_30 {k : Nat} {S : xS} {x : Int32} : rbB k S 30 x = ((rbF k S 0 1 x).1 * 3, (rbF k S 0 1 x).2) := rfl
theorem rb_40 {k : Nat} {S : xS} {x : Int32} : rbB k S 40 x = rbF k S 0 1 (x + 1) := rfl
theorem rb_50 {k : Nat} {S : xS} {x : Int32} : rbB k S 50 x = (- (rbF k S 3 2 x).1, (rbF k S 3 2 x).2) := rfl
theorem rb_60 {k : Nat} {S : xS} {x : Int32} : rbB k S 60 x = ((rbF k S 1 2 x).1 ^^^ 5, (rbF k S 1 2 x).2) := rfl
theorem rb_71 {k : Nat} {S : xS} {x : Int32} : rbB k S 71 x = rbF k S 3 1 (x - S.1 4 3) := rfl
theorem k7 {K : Nat} (h : K < 7) : K = 0 ∨ K = 1 ∨ K = 2 ∨ K = 3 ∨ K = 4 ∨ K = 5 ∨ K = 6 := by omega
theorem AR_w {n m K : Nat} {x a : Int32} {σ0 τ0 σ τ : xS} (hn : n ≤ m) (h : AR n K x a σ0 τ0 σ τ) : AR m K x a σ0 τ0 σ τ := by
  obtain ⟨⟨m', h1, h2⟩, h'⟩ := h
  exact ⟨⟨m', by omega, h2⟩, h'⟩
theorem sg_ok {n K k : Nat} {x a v : Int32} {σ0 τ0 σ τ : xS} (hK : K < 7) (hn : n + 2 ≤ 100) (h : AR n K x a σ0 τ0 σ τ) : (rbF (k + 2) σ (nI K) 0 v).1 = sgV τ x v ∧ AR (n + 2) K x a σ0 τ0 (rbF (k + 2) σ (nI K) 0 v).2 (sgT τ x) := by
  obtain ⟨-, e11, e12⟩ := AR_e h
  have a1 : ∀ b, AR (n + 1) K x a σ0 τ0 (ntS σ b) (bdM τ b) := fun b => AR_nt (by omega) h b
  have a2 : ∀ b, AR (n + 2) K x a σ0 τ0 (ntS (ntS σ b) 10) (bdM (bdM τ b) 10) := fun b => AR_nt (by omega) (a1 b) 10
  have x1 := fun b => (AR_e (a1 b)).1.2
  have x2 := fun b => (AR_e (a2 b)).1.2
  unfold sgV sgT sgS
  rw [e11, e12]
  rcases k7 hK with rfl | rfl | rfl | rfl | rfl | rfl | rfl
  · rw [st10 (by decide)]; simp (decide := true) only [(x1 _).1, if_true, if_false]; exact ⟨trivial, AR_w (by omega) (a1 10)⟩
  · rw [st20 (by decide)]; simp (decide := true) only [(x2 _).1, (x2 _).2, if_true, if_false]; exact ⟨trivial, a2 20⟩
  · rw [st10 (by decide)]; simp (decide := true) only [(x1 _).1, if_true, if_false]; exact ⟨trivial, AR_w (by omega) (a1 10)⟩
  · rw [st10 (by decide)]; simp (decide := true) only [(x1 _).1, if_true, if_false]; exact ⟨trivial, AR_w (by omega) (a1 10)⟩
  · rw [st51 (by decide)]; simp (decide := true) only [(x2 _).1, (x2 _).2, if_true, if_false]; exact ⟨trivial, a2 51⟩
  · rw [st20 (by decide)]; simp (decide := true) only [(x2 _).1, (x2 _).2, if_true, if_false]; exact ⟨trivial, a2 20⟩
  · rw [st70 (by decide)]; simp (decide := true) only [(x2 _).1, (x2 _).2, if_true, if_false]; exact ⟨trivial, a2 70⟩
theorem m11 {n K k : Nat} {x a v fr : Int32} {σ0 τ0 σ τ : xS} (hb : bfV fr 1 = 11) (hK : K < 7) (hn : n + 3 ≤ 100) (h : AR n K x a σ0 τ0 σ τ) : (rbF (k + 3) σ fr 1 v).1 = sgV (bdM τ 11) x v * 2 ∧ AR (n + 3) K x a σ0 τ0 (rbF (k + 3) σ fr 1 v).2 (sgT (bdM τ 11) x) := by
  have a1 := AR_nt (by omega) h 11
  obtain ⟨b1, b2⟩ := sg_ok (k := k) (v := v) hK (by omega) a1
  rw [rb_b (k := k + 2) hb, rb_11, (AR_e a1).1.1]
  dsimp only
  rw [b1]
  exact ⟨rfl, b2⟩
theorem m40 {n K k : Nat} {x a v fr : Int32} {σ0 τ0 σ τ : xS} (hb : bfV fr 1 = 40) (hK : K < 7) (hn : n + 4 ≤ 100) (h : AR n K x a σ0 τ0 σ τ) : (rbF (k + 4) σ fr 1 v).1 = sgV (bdM (bdM τ 40) 11) x (v + 1) * 2 ∧ AR (n + 4) K x a σ0 τ0 (rbF (k + 4) σ fr 1 v).2 (sgT (bdM (bdM τ 40) 11) x) := by
  rw [rb_b (k := k + 3) hb, rb_40]
  exact m11 (k := k) (fr := 0) (v := v + 1) (by decide) hK (by omega) (AR_nt (by omega) h 40)
theorem m30 {n K k : Nat} {x a v fr : Int32} {σ0 τ0 σ τ : xS} (hb : bfV fr 1 = 30) (hK : K < 7) (hn : n + 4 ≤ 100) (h : AR n K x a σ0 τ0 σ τ) : (rbF (k + 4) σ fr 1 v).1 = sgV (bdM (bdM τ 30) 11) x v * 2 * 3 ∧ AR (n + 4) K x a σ0 τ0 (rbF (k + 4) σ fr 1 v).2 (sgT (bdM (bdM τ 30) 11) x) := by
  obtain ⟨b1, b2⟩ := m11 (k := k) (fr := 0) (v := v) (by decide) hK (by omega) (AR_nt (by omega) h 30)
  rw [rb_b (k := k + 3) hb, rb_30]
  dsimp only
  rw [b1]
  exact ⟨rfl, b2⟩
theorem m71 {n K k : Nat} {x a v fr : Int32} {σ0 τ0 σ τ : xS} (hb : bfV fr 1 = 71) (hK : K < 7) (hn : n + 5 ≤ 100) (h : AR n K x a σ0 τ0 σ τ) : (rbF (k + 5) σ fr 1 v).1 = sgV (bdM (bdM (bdM τ 71) 40) 11) x (v - a + 1) * 2 ∧ AR (n + 5) K x a σ0 τ0 (rbF (k + 5) σ fr 1 v).2 (sgT (bdM (bdM (bdM τ 71) 40) 11) x) := by
  have a1 := AR_nt (by omega) h 71
  have := m40 (k := k) (fr := 3) (v := v - a) (by decide) hK (by omega) a1
  rw [rb_b (k := k + 4) hb, rb_71, (AR_e a1).1.2.2]
  exact this
theorem mg_ok {n K k : Nat} {x a v : Int32} {σ0 τ0 σ τ : xS} (hK : K < 7) (hn : n + 5 ≤ 100) (h : AR n K x a σ0 τ0 σ τ) : (rbF (k + 5) σ (nI K) 1 v).1 = mgV τ x v ∧ AR (n + 5) K x a σ0 τ0 (rbF (k + 5) σ (nI K) 1 v).2 (mgT τ x) := by
  obtain ⟨-, e11, e12⟩ := AR_e h
  unfold mgV mgT mgY mg1 mgS
  rw [e11, e12]
  rcases k7 hK with rfl | rfl | rfl | rfl | rfl | rfl | rfl
  · have := m11 (k := k + 2) (fr := nI 0) (v := v) (by decide) hK (by omega) h; simp (decide := true) only [if_true, if_false]; exact ⟨this.1, AR_w (by omega) this.2⟩
  · have := m11 (k := k + 2) (fr := nI 1) (v := v) (by decide) hK (by omega) h; simp (decide := true) only [if_true, if_false]; exact ⟨this.1, AR_w (by omega) this.2⟩
  · have := m30 (k := k + 1) (fr := nI 2) (v := v) (by decide) hK (by omega) h; simp (decide := true) only [if_true, if_false]; exact ⟨this.1, AR_w (by omega) this.2⟩
  · have := m40 (k := k + 1) (fr := nI 3) (v := v) (by decide) hK (by omega) h; simp (decide := true) only [if_true, if_false]; exact ⟨this.1, AR_w (by omega) this.2⟩
  · have := m40 (k := k + 1) (fr := nI 4) (v := v) (by decide) hK (by omega) h; simp (decide := true) only [if_true, if_false]; exact ⟨this.1, AR_w (by omega) this.2⟩
  · have := m11 (k := k + 2) (fr := nI 5) (v := v) (by decide) hK (by omega) h; simp (decide := true) only [if_true, if_false]; exact ⟨this.1, AR_w (by omega) this.2⟩
  · have := m71 (k := k) (fr := nI 6) (v := v) (by decide) hK (by omega) h; simp (decide := true) only [if_true, if_false]; exact this
theorem t12 {n K k : Nat} {x a v fr : Int32} {σ0 τ0 σ τ : xS} (hb : bfV fr 2 = 12) (hK : K < 7) (hn : n + 8 ≤ 100) (h : AR n K x a σ0 τ0 σ τ) : (rbF (k + 6) σ fr 2 v).1 = mgV (bdM τ 12) x v ^^^ sgV (mgT (bdM τ 12) x) x (v - a) ∧ AR (n + 8) K x a σ0 τ0 (rbF (k + 6) σ fr 2 v).2 (sgT (mgT (bdM τ 12) x) x) := by
  have a1 := AR_nt (by omega) h 12
  obtain ⟨b1, b2⟩ := mg_ok (k := k) (v := v) hK (by omega) a1
  rw [rb_b (k := k + 5) hb, rb_12, (AR_e a1).1.1]
  dsimp only
  rw [b1]
  generalize rbF (k + 5) (ntS σ 12) (nI K) 1 v = F at *
  rw [(AR_e b2).1.1, (AR_e b2).1.2.2]
  obtain ⟨d1, d2⟩ := sg_ok (k := k + 3) (v := v - a) hK (by omega) b2
  rw [d1]
  exact ⟨rfl, d2⟩
theorem tg_ok {n K k : Nat} {x a v : Int32} {σ0 τ0 σ τ : xS} (hK : K < 7) (hn : n + 9 ≤ 100) (h : AR n K x a σ0 τ0 σ τ) : (rbF (k + 7) σ (nI K) 2 v).1 = tgV τ x v ∧ AR (n + 9) K x a σ0 τ0 (rbF (k + 7) σ (nI K) 2 v).2 (tgT τ x) := by
  obtain ⟨-, e11, e12⟩ := AR_e h
  unfold tgV tgT tgW tg1 tgS
  rw [e11, e12]
  rcases k7 hK with rfl | rfl | rfl | rfl | rfl | rfl | rfl
  · have := t12 (k := k + 1) (fr := nI 0) (v := v) (by decide) hK (by omega) h; simp (decide := true) only [if_true, if_false]; exact ⟨this.1, AR_w (by omega) this.2⟩
  · have := t12 (k := k + 1) (fr := nI 1) (v := v) (by decide) hK (by omega) h; simp (decide := true) only [if_true, if_false]; exact ⟨this.1, AR_w (by omega) this.2⟩
  · have := t12 (k := k + 1) (fr := nI 2) (v := v) (by decide) hK (by omega) h; simp (decide := true) only [if_true, if_false]; exact ⟨this.1, AR_w (by omega) this.2⟩
  · have := t12 (k := k + 1) (fr := nI 3) (v := v) (by decide) hK (by omega) h; simp (decide := true) only [if_true, if_false]; exact ⟨this.1, AR_w (by omega) this.2⟩
  · obtain ⟨b1, b2⟩ := t12 (k := k) (fr := 3) (v := v) (by decide) hK (by omega) (AR_nt (by omega) h 50)
    simp (decide := true) only [if_true, if_false]
    rw [rb_b (k := k + 6) (show bfV (nI 4) 2 = 50 by decide), rb_50]
    dsimp only
    rw [b1]
    exact ⟨rfl, AR_w (by omega) b2⟩
  · obtain ⟨b1, b2⟩ := t12 (k := k) (fr := 1) (v := v) (by decide) hK (by omega) (AR_nt (by omega) h 60)
    simp (decide := true) only [if_true, if_false]
    rw [rb_b (k := k + 6) (show bfV (nI 5) 2 = 60 by decide), rb_60]
    dsimp only
    rw [b1]
    exact ⟨rfl, AR_w (by omega) b2⟩
  · have := t12 (k := k + 1) (fr := nI 6) (v := v) (by decide) hK (by omega) h; simp (decide := true) only [if_true, if_false]; exact ⟨this.1, AR_w (by omega) this.2⟩
