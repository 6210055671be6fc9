/-! bits: walls and packed steps -/
def bt (x : Int32) (i : Nat) : Bool := x.toBitVec.getLsbD i
theorem b_ext {x y : Int32} (h : ∀ i, i < 32 → bt x i = bt y i) : x = y := Int32.toBitVec_inj.mp (BitVec.eq_of_getLsbD_eq (fun i hi => h i hi))
theorem b_or (x y : Int32) (i : Nat) : bt (x ||| y) i = (bt x i || bt y i) := by unfold bt; rw [Int32.toBitVec_or, BitVec.getLsbD_or]
theorem b_and (x y : Int32) (i : Nat) : bt (x &&& y) i = (bt x i && bt y i) := by unfold bt; rw [Int32.toBitVec_and, BitVec.getLsbD_and]
theorem b_0 (i : Nat) : bt 0 i = false := BitVec.getLsbD_zero
theorem s_l : ∀ n, n < 32 → ((nI n &&& 31).toBitVec.smod 32).toNat = n := by decide +kernel
theorem b_shl (n : Nat) (hn : n < 32) (x : Int32) {i : Nat} (hi : i < 32) : bt (x <<< (nI n &&& 31)) i = (decide (n ≤ i) && bt x (i - n)) := by
  unfold bt
  rw [Int32.toBitVec_shiftLeft]
  show (x.toBitVec <<< ((nI n &&& 31).toBitVec.smod 32).toNat).getLsbD i = _
  rw [s_l n hn, BitVec.getLsbD_shiftLeft]
  rcases Nat.lt_or_ge i n with h | h
  · simp [h, Nat.not_le.mpr h]
  · simp [hi, h, Nat.not_lt.mpr h]
theorem b_sshr (n : Nat) (hn : n < 32) (x : Int32) {i : Nat} (hi : i < 32) : bt (x >>> (nI n &&& 31)) i = if n + i < 32 then bt x (n + i) else bt x 31 := by
  unfold bt
  rw [Int32.toBitVec_shiftRight]
  show (x.toBitVec.sshiftRight ((nI n &&& 31).toBitVec.smod 32).toNat).getLsbD i = _
  rw [s_l n hn, BitVec.getLsbD_sshiftRight, BitVec.msb_eq_getLsbD_last]
  simp [hi]
theorem bt_4 : ∀ s, s < 4 → ∀ i, i < 32 → 2 ≤ i → bt (nI s) i = false := by decide +kernel
theorem bt_3 : ∀ i, i < 32 → bt 3 i = decide (i < 2) := by decide +kernel
/-- steps, two bits each -/
theorem pack_ok {P : Nat → Int32} {st : Nat → Nat} {M : Nat} (hM : M ≤ 8) (h0 : P 0 = 0) (hs : ∀ i, i < M → P (i + 1) = P i ||| xshl (nI (st i)) (2 * nI i)) (h4 : ∀ i, i < M → st i < 4) : ∀ n, n ≤ M → ∀ m, m < 32 → bt (P n) m = (decide (m < 2 * n) && bt (nI (st (m / 2))) (m % 2))
  | 0, _, m, hm => by rw [h0, b_0, decide_eq_false (by omega), Bool.false_and]
  | n + 1, hn, m, hm => by
    have e2 : (2 : Int32) * nI n = nI (2 * n) := by rw [show (2 : Int32) = nI 2 from rfl, pk_mul]
    rw [hs n (by omega), b_or, pack_ok hM h0 hs h4 n (by omega) m hm, e2]
    unfold xshl
    rw [b_shl (2 * n) (by omega) _ hm]
    by_cases h1 : m < 2 * n
    · rw [decide_eq_true h1, decide_eq_false (show ¬ 2 * n ≤ m by omega), decide_eq_true (show m < 2 * (n + 1) by omega)]; simp
    · rw [decide_eq_false h1, decide_eq_true (show 2 * n ≤ m by omega), Bool.false_and, Bool.true_and, Bool.false_or]
      by_cases h2 : m < 2 * (n + 1)
      · rw [decide_eq_true h2, Bool.true_and, show m / 2 = n by omega, show m % 2 = m - 2 * n by omega]
      · rw [decide_eq_false h2, Bool.false_and, bt_4 _ (h4 n (by omega)) _ (by omega) (by omega)]
theorem unpack_ok {P : Nat → Int32} {st : Nat → Nat} {M : Nat} (hM : M ≤ 8) (h0 : P 0 = 0) (hs : ∀ i, i < M → P (i + 1) = P i ||| xshl (nI (st i)) (2 * nI i)) (h4 : ∀ i, i < M → st i < 4) {n j : Nat} (hn : n ≤ M) (hj : j < n) : xshr (P n) (2 * nI j) &&& 3 = nI (st j) := by
  have e2 : (2 : Int32) * nI j = nI (2 * j) := by rw [show (2 : Int32) = nI 2 from rfl, pk_mul]
  refine b_ext (fun i hi => ?_)
  rw [e2, b_and, bt_3 i hi]
  unfold xshr
  rw [b_sshr (2 * j) (by omega) _ hi]
  by_cases h2 : i < 2
  · rw [decide_eq_true h2, Bool.and_true, if_pos (by omega), pack_ok hM h0 hs h4 n hn _ (by omega), decide_eq_true (show 2 * j + i < 2 * n by omega), Bool.true_and, show (2 * j + i) / 2 = j by omega, show (2 * j + i) % 2 = i by omega]
  · rw [decide_eq_false h2, Bool.and_false, bt_4 _ (h4 j (by omega)) i hi (by omega)]
/-! walls -/
def lbt (x : Int64) (i : Nat) : Bool := x.toBitVec.getLsbD i
theorem u_64 : ∀ p, p < 64 → (((nI p).toInt64.toUInt64 &&& Int64.toUInt64 63).toBitVec % 64).toNat = p := by decide +kernel
theorem l1_bit : ∀ i, i < 64 → lbt 1 i = decide (i = 0) := by decide +kernel
theorem lbt_ush {x : Int64} {p : Nat} (hp : p < 64) (i : Nat) : lbt (xlushr x (nI p)) i = lbt x (p + i) := by
  show (x.toUInt64 >>> ((nI p).toInt64.toUInt64 &&& Int64.toUInt64 63)).toBitVec.getLsbD i = x.toUInt64.toBitVec.getLsbD (p + i)
  rw [UInt64.toBitVec_shiftRight]
  show (x.toUInt64.toBitVec >>> (((nI p).toInt64.toUInt64 &&& Int64.toUInt64 63).toBitVec % 64).toNat).getLsbD i = _
  rw [u_64 p hp, BitVec.getLsbD_ushiftRight]
theorem l_ext {x y : Int64} (h : ∀ i, i < 64 → lbt x i = lbt y i) : x = y := Int64.toBitVec_inj.mp (BitVec.eq_of_getLsbD_eq (fun i hi => h i hi))
theorem l_and (x y : Int64) (i : Nat) : lbt (x &&& y) i = (lbt x i && lbt y i) := by unfold lbt; rw [Int64.toBitVec_and, BitVec.getLsbD_and]
theorem l_or (x y : Int64) (i : Nat) : lbt (x ||| y) i = (lbt x i || lbt y i) := by unfold lbt; rw [Int64.toBitVec_or, BitVec.getLsbD_or]
theorem l_xor (x y : Int64) (i : Nat) : lbt (x ^^^ y) i = (lbt x i ^^ lbt y i) := by unfold lbt; rw [Int64.toBitVec_xor, BitVec.getLsbD_xor]
theorem wl_bit {x : Int64} {p : Nat} (hp : p < 64) : (xlushr x (nI p) &&& 1 = 1) ↔ lbt x p = true := by
  constructor
  · intro h
    have := congrArg (fun z => lbt z 0) h
    rw [l_and, lbt_ush hp, l1_bit 0 (by omega)] at this
    simpa using this
  · intro h
    refine l_ext (fun i hi => ?_)
    rw [l_and, lbt_ush hp, l1_bit i hi]
    by_cases h0 : i = 0
    · rw [h0, decide_eq_true rfl, Nat.add_zero, h]; rfl
    · rw [decide_eq_false h0, Bool.and_false]
theorem shl_bit : ∀ p, p < 49 → ∀ i, i < 64 → lbt (xlshl 1 (nI p)) i = decide (i = p) := by decide +kernel
theorem m1_bit : ∀ i, i < 64 → lbt (-1) i = true := by decide +kernel
theorem put_bit {x : Int64} {p i : Nat} {b : Int32} (hp : p < 49) (hi : i < 64) : lbt (xwp_put x (nI p) b) i = if i = p then decide (¬ b = 0) else lbt x i := by
  unfold xwp_put
  by_cases hb : b = 0
  · rw [if_pos hb, l_and, l_xor, shl_bit p hp i hi, m1_bit i hi]
    by_cases e : i = p
    · rw [if_pos e, decide_eq_true e, decide_eq_false (not_not_intro hb)]
      simp
    · rw [if_neg e, decide_eq_false e]
      simp
  · rw [if_neg hb, l_or, shl_bit p hp i hi]
    by_cases e : i = p
    · rw [if_pos e, decide_eq_true e, decide_eq_true hb]
      simp
    · rw [if_neg e, decide_eq_false e]
      simp
theorem TA_wall {G N p : Nat} {B : Nat} {σ τ : xS} (hA : TA B G N σ τ.1) (hp : p < 49) (b : Nat) (hb : b < 2) : TA B G N (xJ σ B 0 (xwp_put (σ.2 B 0) (nI p) (nI b))) (xI τ 10 p (nI b)).1 := by
  obtain ⟨⟨⟨a1, hg, hw, hl⟩, ⟨d, e1, e2, e3⟩⟩, ⟨a3, a4, a5⟩, a6⟩ := hA
  have hm : ∀ a c, a ≠ 10 ∨ c ≠ p → (xI τ 10 p (nI b)).1 a c = τ.1 a c := fun a c q => xI_n (by omega)
  have hmp : (xI τ 10 p (nI b)).1 10 p = nI b := xI_s
  have hx2 : (xJ σ B 0 (xwp_put (σ.2 B 0) (nI p) (nI b))).2 B 0 = xwp_put (σ.2 B 0) (nI p) (nI b) := by simp [xJ]
  have hx1 : (xJ σ B 0 (xwp_put (σ.2 B 0) (nI p) (nI b))).1 = σ.1 := rfl
  generalize xJ σ B 0 (xwp_put (σ.2 B 0) (nI p) (nI b)) = S at *
  generalize xI τ 10 p (nI b) = U at *
  refine ⟨⟨⟨by rw [hx1]; exact a1, fun g hgG => ?_, fun w hwN => ?_, ?_⟩, ⟨?_, fun g hgG => wfG_v (fun a c q1 q2 => hm a c (by omega)) (e1 g hgG), fun w hwN => wfW_v (fun a q1 q2 => hm a w (by omega)) (fun g => hm 8 g (by omega)) (e2 w hwN), fun q hq => ?_⟩⟩, ⟨by rw [hx1, hm _ _ (by omega)]; exact a3, by rw [hx1, hm _ _ (by omega)]; exact a4, by rw [hx1, hm _ _ (by omega)]; exact a5⟩, ?_⟩
  · obtain ⟨b1, b2, b3⟩ := hg g hgG
    unfold TG
    rw [hx1]
    exact ⟨by rw [hm _ _ (by omega)]; exact b1, by rw [hm _ _ (by omega)]; exact b2, fun j hj => by rw [hm _ _ (by omega)] at hj; rw [hm _ _ (by omega)]; exact b3 j hj⟩
  · have := TK_v (fun a q1 q2 => hm a w (by omega)) (hw w hwN)
    unfold TK at *
    rw [hx1]; exact this
  · intro q hq
    rw [hx2, wl_bit (by omega), put_bit hp (by omega)]
    by_cases e : q = p
    · rw [if_pos e, e, hmp]
      have : b = 0 ∨ b = 1 := by omega
      rcases this with rfl | rfl
      · simp [nI_00]
      · rw [show nI 1 = 1 from rfl]; simp
    · rw [if_neg e, hm _ _ (by omega), ← wl_bit (by omega)]
      exact hl q hq
  · rw [hm _ _ (by omega), hm _ _ (by omega)]; exact d
  · by_cases e : q = p
    · rw [e, hmp]; exact ⟨b, hb, rfl⟩
    · rw [hm _ _ (by omega)]; exact e3 q hq
  · intro q h1 h2
    rw [hx2, wl_bit h2, put_bit hp h2, if_neg (by omega), ← wl_bit h2]
    exact a6 q h1 h2
theorem at_eqB {B G N : Nat} {σ τ : xS} (hA : TA B G N σ τ.1) (p : Int32) : xany (fun i => decide (σ.1 (B + 20 + i) 1 = p)) (tn (σ.1 B 2)) = itM τ p := by
  have hN := hA.1.2.1.2.1
  unfold itM
  rw [hA.1.1.1.2, hA.1.2.1.2.2.2, tn_nI (by omega)]
  refine xany_congr (fun i hi => ?_)
  unfold tkP
  rw [(hA.1.1.2.2.1 i hi).2.1]
theorem at_eq {G N : Nat} {σ τ : xS} (hA : TA 100 G N σ τ.1) (p : Int32) : atX σ p = itM τ p := at_eqB hA p
theorem atR_eq {G N : Nat} {σ τ : xS} (hA : TA 400 G N σ τ.1) (p : Int32) : atR σ p = itM τ p := at_eqB hA p
theorem RRn_wall {G N p b : Nat} {σ τ : xS} (h : RRn G N σ τ) (hp : p < 49) (hb : b < 2) : RRn G N (xJ σ 100 0 (xwp_put (σ.2 100 0) (nI p) (nI b))) (xI τ 10 p (nI b)) :=
  RRn_t h (TA_wall h.1 hp b hb) (Nat.le_refl _) (fun _ _ _ _ _ => rfl) (fun a c q _ _ _ _ => by rw [xJ_ne _ _ _ q]) (fun c q => xI_n (by omega)) (fun a c q => xI_n (by omega)) (fun _ => rfl)
theorem ok_wall {G N : Nat} {σ τ : xS} (h : RRn G N σ τ) (p b : Int32) (hb : b = 0 ∨ b = 1) : OKp (walX σ p b) (walM τ p b) := by
  unfold walX walM
  rw [at_eq h.1 p]
  by_cases hp : 0 ≤ p ∧ p ≤ 48
  · by_cases ht : ¬ b = 0 ∧ itM τ p = true
    · rw [if_pos (Or.inr ht), if_pos (Or.inr ht)]
      exact no_p rk6 h
    · rw [if_neg (show ¬ (¬ (0 ≤ p ∧ p ≤ 48) ∨ (¬ b = 0 ∧ itM τ p = true)) from fun q => q.elim (fun z => z hp) ht), if_neg (show ¬ (¬ (0 ≤ p ∧ p < 49) ∨ (¬ b = 0 ∧ itM τ p = true)) from fun q => q.elim (fun z => z (p4849.mp hp)) ht)]
      obtain ⟨p', hp', rfl⟩ := rle (k := 48) (by omega) hp
      rw [tn_nI (i := p') (by omega)]
      have hl := h.1.1.1.2.2.2 p' (by omega)
      obtain ⟨c, hc, e⟩ := h.1.1.2.2.2.2 p' (by omega)
      have hbb : ∃ n, n < 2 ∧ b = nI n ∧ (if b = 0 then (0 : Int32) else 1) = nI n := by
        rcases hb with rfl | rfl
        · exact ⟨0, by omega, rfl, rfl⟩
        · exact ⟨1, by omega, rfl, rfl⟩
      obtain ⟨n, hn, eb, ec⟩ := hbb
      have hcc : (if xlushr (σ.2 100 0) (nI p') &&& 1 = 1 then (1 : Int32) else 0) = τ.1 10 p' := by
        by_cases h1 : τ.1 10 p' = 1
        · rw [if_pos (hl.mpr h1), h1]
        · rw [if_neg (fun z => h1 (hl.mp z)), e]
          have : c ≠ 1 := fun z => h1 (by rw [e, z]; rfl)
          rw [show c = 0 by omega]; rfl
      rw [hcc, ec, eb]
      by_cases hs : τ.1 10 p' = nI n
      · rw [if_pos hs, if_pos hs]
        have ei : xI τ 10 p' (nI n) = τ := xS_e (fun x y => by
          rw [xI_g]
          split
          · rename_i q; rw [q.1, q.2, hs]
          · rfl) (fun _ _ => rfl)
        rw [ei]
        exact ⟨rfl, G, N, h⟩
      · rw [if_neg hs, if_neg hs]
        exact ⟨rfl, G, N, RRn_wall h (by omega) hn⟩
  · rw [if_pos (Or.inl hp), if_pos (Or.inl (fun z => hp (p4849.mpr z)))]
    exact no_p rk6 h
