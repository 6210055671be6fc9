/-! the readers, side by side: letters, numbers -/
def lC (E : Nat) (ℓ : Nat → Int32) (a : Nat) : Int32 := if a < E then ℓ a else -1
def RdX (E : Nat) (ℓ : Nat → Int32) (S : xS) : Prop := S.1 2 2 = nI E ∧ ∀ i, i < E → S.1 3 i = ℓ i
def RdM (E b : Nat) (ℓ : Nat → Int32) (T : xS) : Prop := T.1 0 34 = nI E ∧ T.1 0 32 = nI b ∧ ∀ i, i < E → (T.2 27 (b + i)).toInt32 = ℓ i
theorem RdX_k {E : Nat} {ℓ : Nat → Int32} {S S' : xS} (hk : kp2 S S') (h : RdX E ℓ S) : RdX E ℓ S' := ⟨hk.2.1.trans h.1, fun i hi => (hk.1 3 i (by omega)).trans (h.2 i hi)⟩
theorem RdM_v {E b : Nat} {ℓ : Nat → Int32} {T T' : xS} (h1 : T'.1 0 34 = T.1 0 34) (h2 : T'.1 0 32 = T.1 0 32) (h3 : T'.2 = T.2) (h : RdM E b ℓ T) : RdM E b ℓ T' := ⟨h1.trans h.1, h2.trans h.2.1, fun i hi => by rw [h3]; exact h.2.2 i hi⟩
theorem RdM_i {E b a c : Nat} {v : Int32} {ℓ : Nat → Int32} {T : xS} (hc : a ≠ 0 ∨ (c ≠ 32 ∧ c ≠ 34)) (h : RdM E b ℓ T) : RdM E b ℓ (xI T a c v) := RdM_v (xI_n (by omega)) (xI_n (by omega)) rfl h
theorem lt_c {E a : Nat} {ℓ : Nat → Int32} {S : xS} (hE : E ≤ 160) (ha : a < 1000) (h : RdX E ℓ S) : ltA S (nI a) = lC E ℓ a := by
  unfold ltA lC
  rw [h.1]
  by_cases hh : a < E
  · rw [if_pos ⟨nI_pos' (by omega), nI_lt hh (by omega), nI_lt (b := 160) (by omega) (by omega)⟩, if_pos hh, tn_nI (by omega)]
    exact h.2 a hh
  · rw [if_neg (fun q => hh ((nI_ltI (by omega) (by omega)).mp q.2.1)), if_neg hh]
theorem lth_c {E a : Nat} {ℓ : Nat → Int32} {S : xS} (hE : E ≤ 160) (ha : a < 1000) (h : RdX E ℓ S) (hp : S.1 2 0 = nI a) : ltH S = lC E ℓ a := by
  unfold ltH
  rw [hp]
  exact lt_c hE ha h
theorem lhM_c {E b a : Nat} {ℓ : Nat → Int32} {T : xS} (hE : E ≤ 160) (hb : b ≤ 1120) (ha : a < E) (h : RdM E b ℓ T) (hp : T.1 0 33 = nI a) : lhM T = lC E ℓ a := by
  unfold lhM lC
  rw [h.2.1, hp, nI_add, tn_nI (by omega), if_pos ha]
  exact h.2.2 a ha
theorem lettA_c {E b q : Nat} {ℓ : Nat → Int32} {T : xS} (hE : E ≤ 160) (hb : b ≤ 1120) (ha : q < E) (h : RdM E b ℓ T) : lettA T (nI q) = lC E ℓ q := by
  unfold lettA lC
  rw [h.2.1, nI_add, tn_nI (by omega), if_pos ha]
  exact h.2.2 q ha
theorem lt_33 {E b a : Nat} {ℓ : Nat → Int32} {T : xS} (hE : E ≤ 160) (ha : a < 1000) (h : RdM E b ℓ T) (hp : T.1 0 33 = nI a) : T.1 0 33 < T.1 0 34 ↔ a < E := by rw [hp, h.1]; exact nI_ltI (by omega) (by omega)
theorem lC_lt {E a : Nat} {ℓ : Nat → Int32} {c : Int32} (h : lC E ℓ a = c) (hc : ¬ c = -1) : a < E := by
  unfold lC at h
  by_cases q : a < E
  · exact q
  · rw [if_neg q] at h; exact absurd h.symm hc
theorem blk_c {E b a : Nat} {ℓ : Nat → Int32} {T : xS} (hE : E ≤ 160) (hb : b ≤ 1120) (ha : a < 1000) (h : RdM E b ℓ T) (hp : T.1 0 33 = nI a) : blkM T = if lC E ℓ a = 32 then (1, xI T 0 33 (nI (a + 1))) else (0, xI T 0 37 (nI a)) := by
  unfold blkM
  have e : (T.1 0 33 < T.1 0 34 ∧ lhM T = 32) ↔ lC E ℓ a = 32 := by
    rw [lt_33 hE ha h hp]
    constructor
    · rintro ⟨q1, q2⟩
      rwa [lhM_c hE hb q1 h hp] at q2
    · intro q
      have q1 := lC_lt q (by decide)
      exact ⟨q1, by rw [lhM_c hE hb q1 h hp]; exact q⟩
  by_cases q : lC E ℓ a = 32
  · rw [if_pos (e.mpr q), if_pos q, hp, nI_1]
  · rw [if_neg (fun z => q (e.mp z)), if_neg q, hp]
def dG (E : Nat) (ℓ : Nat → Int32) (a : Nat) : Prop := 48 ≤ lC E ℓ a ∧ lC E ℓ a ≤ 57
theorem dG_lt {E a : Nat} {ℓ : Nat → Int32} (h : dG E ℓ a) : a < E := by
  by_cases q : a < E
  · exact q
  · unfold dG lC at h
    rw [if_neg q] at h
    exact absurd h.1 (by decide)
theorem dG_n {E a : Nat} {ℓ : Nat → Int32} (h : dG E ℓ a) : ∃ m, m < 10 ∧ lC E ℓ a = nI (m + 48) := by
  obtain ⟨m, h1, h2, h3⟩ := dig_n h.1 h.2
  exact ⟨m - 48, by omega, by rw [h3, show m - 48 + 48 = m by omega]⟩
theorem isD_c {E b a : Nat} {ℓ : Nat → Int32} {T : xS} (hE : E ≤ 160) (hb : b ≤ 1120) (ha : a < 1000) (h : RdM E b ℓ T) (hp : T.1 0 33 = nI a) : isD T = true ↔ dG E ℓ a := by
  unfold isD
  rw [decide_eq_true_iff, lt_33 hE ha h hp]
  constructor
  · rintro ⟨q1, q2⟩
    rwa [lhM_c hE hb q1 h hp] at q2
  · intro q
    have q1 := dG_lt q
    exact ⟨q1, by rw [lhM_c hE hb q1 h hp]; exact q⟩
theorem dgV_c {E a : Nat} {ℓ : Nat → Int32} {S : xS} (hE : E ≤ 160) (ha : a < 1000) (h : RdX E ℓ S) (hp : S.1 2 0 = nI a) : (dG E ℓ a ∧ ∃ m, m < 10 ∧ lC E ℓ a = nI (m + 48) ∧ dgV S = nI m) ∨ (¬ dG E ℓ a ∧ dgV S = -1) := by
  unfold dgV
  rw [lth_c hE ha h hp]
  by_cases q : dG E ℓ a
  · obtain ⟨m, h1, h2⟩ := dG_n q
    refine Or.inl ⟨q, m, h1, h2, ?_⟩
    rw [if_pos (show 48 ≤ lC E ℓ a ∧ lC E ℓ a ≤ 57 from q), h2, show (48 : Int32) = nI 48 from rfl, pk_sub (by omega), Nat.add_sub_cancel]
  · exact Or.inr ⟨q, if_neg q⟩
/-- a number, behind its blank: class and reference -/
theorem NUM {E b a : Nat} {ℓ : Nat → Int32} {S T : xS} (hE : E ≤ 160) (hb : b ≤ 1120) (ha : a < 200) (hX : RdX E ℓ S) (hp : S.1 2 0 = nI a) (hM : RdM E b ℓ T) (hq : T.1 0 33 = nI (a + 1)) (h32 : lC E ℓ a = 32) : ((numM T).1 = 0 ∧ (numM T).2.1 0 37 = nI (a + 1) ∧ ∀ lo hi, rnV S lo hi = -1 ∧ (rnS S lo hi).1 2 0 = nI (a + 1)) ∨ (∃ n c, n < 100 ∧ (a + 1 < c ∧ c ≤ E) ∧ (numM T).1 = 1 ∧ (numM T).2.1 0 35 = nI n ∧ (numM T).2.1 0 33 = nI c ∧ ∀ lo hi, (lo ≤ nI n ∧ nI n ≤ hi → rnV S lo hi = nI n ∧ (rnS S lo hi).1 2 0 = nI c ∧ (rnS S lo hi).1 2 3 = nI (a + 1)) ∧ (¬ (lo ≤ nI n ∧ nI n ≤ hi) → rnV S lo hi = -1 ∧ (rnS S lo hi).1 2 0 = nI (a + 1))) := by
  have hl := lth_c hE (by omega) hX hp
  have r0 : rsV S 32 = 1 := by unfold rsV; rw [hl, if_pos h32]
  have r0n : ¬ rsV S 32 = 0 := by rw [r0]; decide
  have rp : (rsS S 32).1 2 0 = nI (a + 1) := by unfold rsS; rw [hl, if_pos h32, xI_s, hp, nI_1]
  have X1 := RdX_k (rn1_k (σ := S)) hX
  have p1 : (rn1 S).1 2 0 = nI (a + 1) := by unfold rn1; rw [xI_n (by omega)]; exact rp
  have p13 : (rn1 S).1 2 3 = nI (a + 1) := by unfold rn1; rw [xI_s]; exact rp
  have X2 := RdX_k (rn2_k (σ := S)) hX
  have p2 : (rn2 S).1 2 0 = nI (a + 2) := by unfold rn2; rw [xI_s, rp, nI_1]
  have p23 : (rn2 S).1 2 3 = nI (a + 1) := by unfold rn2; rw [xI_n (by omega)]; exact p13
  have d1 := dgV_c hE (by omega) X1 p1
  have d2 := dgV_c hE (by omega) X2 p2
  have M1 : RdM E b ℓ (nm1 T) := RdM_v (nm1_o (by omega)) (nm1_o (by omega)) rfl hM
  have q1 : (nm1 T).1 0 33 = nI (a + 1) := by rw [nm1_o (by omega)]; exact hq
  have i1 := isD_c hE hb (by omega) M1 q1
  have M2 : RdM E b ℓ (nm2 T) := RdM_v (nm2_o (by omega)) (nm2_o (by omega)) rfl hM
  have q2 : (nm2 T).1 0 33 = nI (a + 2) := by rw [nm2_33, hq, nI_1]
  have i2 := isD_c hE hb (by omega) M2 q2
  rcases d1 with ⟨e1, m, hm, v1, v2⟩ | ⟨e1, v2⟩
  · refine Or.inr ?_
    have hn1 : ¬ dgV (rn1 S) = -1 := by rw [v2]; exact nm1_nI (by omega)
    have a1 := dG_lt e1
    have t2 : (nm2 T).1 0 35 = nI m := by rw [nm2_35, lhM_c hE hb a1 M1 q1, v1, show (48 : Int32) = nI 48 from rfl, pk_sub (by omega), Nat.add_sub_cancel]
    rcases d2 with ⟨f1, k, hk, w1, w2⟩ | ⟨f1, w2⟩
    · have a2 := dG_lt f1
      have hn2 : ¬ dgV (rn2 S) = -1 := by rw [w2]; exact nm1_nI (by omega)
      have eN : rnN S = nI (10 * m + k) := by unfold rnN; rw [if_neg hn2, v2, w2, show (10 : Int32) = nI 10 from rfl, pk_mul, nI_add, Nat.mul_comm]
      have p3 : (rn3 S).1 2 0 = nI (a + 3) := by unfold rn3; rw [if_neg hn2, xI_s, rp, nI_1, nI_1]
      have p33 : (rn3 S).1 2 3 = nI (a + 1) := by unfold rn3; rw [if_neg hn2, xI_n (by omega)]; exact p23
      have eM : numM T = (1, nm3 T) := by unfold numM; rw [if_pos (i1.mpr e1), if_pos (i2.mpr f1)]
      refine ⟨10 * m + k, a + 3, by omega, by omega, by rw [eM], ?_, ?_, fun lo hi => ⟨fun z => ⟨?_, ?_, ?_⟩, fun z => ⟨?_, ?_⟩⟩⟩
      · rw [eM]
        show (nm3 T).1 0 35 = _
        rw [nm3_35, t2, lhM_c hE hb a2 M2 q2, w1, show (10 : Int32) = nI 10 from rfl, pk_mul, nI_add, show (48 : Int32) = nI 48 from rfl, pk_sub (by omega), ← Nat.add_assoc, Nat.add_sub_cancel]
      · rw [eM]
        show (nm3 T).1 0 33 = _
        rw [nm3_33, hq, nI_1, nI_1]
      · unfold rnV; rw [if_neg r0n, if_neg hn1, eN, if_pos z]
      · unfold rnS; rw [if_neg r0n, if_neg hn1, eN, if_pos z]; exact p3
      · unfold rnS; rw [if_neg r0n, if_neg hn1, eN, if_pos z]; exact p33
      · unfold rnV; rw [if_neg r0n, if_neg hn1, eN, if_neg z]
      · unfold rnS; rw [if_neg r0n, if_neg hn1, eN, if_neg z, xI_s]; exact rp
    · have eN : rnN S = nI m := by unfold rnN; rw [if_pos w2, v2]
      have p3 : (rn3 S).1 2 0 = nI (a + 2) := by unfold rn3; rw [if_pos w2]; exact p2
      have p33 : (rn3 S).1 2 3 = nI (a + 1) := by unfold rn3; rw [if_pos w2]; exact p23
      have eM : numM T = (1, nm2 T) := by unfold numM; rw [if_pos (i1.mpr e1), if_neg (fun z => f1 (i2.mp z))]
      refine ⟨m, a + 2, by omega, by omega, by rw [eM], ?_, ?_, fun lo hi => ⟨fun z => ⟨?_, ?_, ?_⟩, fun z => ⟨?_, ?_⟩⟩⟩
      · rw [eM]; exact t2
      · rw [eM]; exact q2
      · unfold rnV; rw [if_neg r0n, if_neg hn1, eN, if_pos z]
      · unfold rnS; rw [if_neg r0n, if_neg hn1, eN, if_pos z]; exact p3
      · unfold rnS; rw [if_neg r0n, if_neg hn1, eN, if_pos z]; exact p33
      · unfold rnV; rw [if_neg r0n, if_neg hn1, eN, if_neg z]
      · unfold rnS; rw [if_neg r0n, if_neg hn1, eN, if_neg z, xI_s]; exact rp
  · refine Or.inl ?_
    have eM : numM T = (0, xI (nm1 T) 0 37 (T.1 0 33)) := by unfold numM; rw [if_neg (fun z => e1 (i1.mp z))]
    refine ⟨by rw [eM], by rw [eM]; exact xI_s.trans hq, fun lo hi => ⟨?_, ?_⟩⟩
    · unfold rnV; rw [if_neg r0n, if_pos v2]
    · unfold rnS; rw [if_neg r0n, if_pos v2]; exact p1
theorem NUM0 {E a : Nat} {ℓ : Nat → Int32} {S : xS} (hE : E ≤ 160) (ha : a < 200) (hX : RdX E ℓ S) (hp : S.1 2 0 = nI a) (h32 : ¬ lC E ℓ a = 32) (lo hi : Int32) : rnV S lo hi = -1 ∧ (rnS S lo hi).1 2 0 = nI a := by
  have hl := lth_c hE (by omega) hX hp
  have r0 : rsV S 32 = 0 := by unfold rsV; rw [hl, if_neg h32]
  refine ⟨?_, ?_⟩
  · unfold rnV; rw [if_pos r0]
  · unfold rnS; rw [if_pos r0]; unfold rsS; rw [hl, if_neg h32]; exact hp
theorem numM_d {E b : Nat} {ℓ : Nat → Int32} {T : xS} (hM : RdM E b ℓ T) : RdM E b ℓ (numM T).2 ∧ ∀ j, (numM T).2.1 30 j = T.1 30 j := by
  unfold numM
  split
  · split
    · exact ⟨RdM_v (nm3_o (by omega)) (nm3_o (by omega)) rfl hM, fun j => nm3_o (by omega)⟩
    · exact ⟨RdM_v (nm2_o (by omega)) (nm2_o (by omega)) rfl hM, fun j => nm2_o (by omega)⟩
  · exact ⟨RdM_i (by omega) (RdM_v (nm1_o (by omega)) (nm1_o (by omega)) rfl hM), fun j => by rw [xI_n (by omega), nm1_o (by omega)]⟩
/-- one number of an item: read, held against what may be -/
theorem N2 {E b a i : Nat} {ℓ : Nat → Int32} {k lo hi : Int32} {X : Nat → Prop} {S : xS} {F : Int32 × xS} (hE : E ≤ 160) (hb : b ≤ 1120) (ha : a < 200) (hX : RdX E ℓ S) (hp : S.1 2 0 = nI a) (hM : RdM E b ℓ F.2) (hF : F.1 = 1) (hix : (i = 0 ∧ lC E ℓ a = 32 ∧ F.2.1 0 33 = nI (a + 1)) ∨ (i ≠ 0 ∧ F.2.1 0 33 = nI a)) (hs : ∀ U n, rdE F.2 U → n < 100 → U.1 0 35 = nI n → (soM U k (nI i) = true ↔ (lo ≤ nI n ∧ nI n ≤ hi) ∧ X n)) : ((nuG F k i).1 = 0 ∧ ∃ p, (nuG F k i).2.1 0 37 = nI p ∧ ((rnV S lo hi = -1 ∧ (rnS S lo hi).1 2 0 = nI p) ∨ (∃ n, n < 100 ∧ (lo ≤ nI n ∧ nI n ≤ hi) ∧ rnV S lo hi = nI n ∧ ¬ X n ∧ (rnS S lo hi).1 2 3 = nI p))) ∨ ((nuG F k i).1 = 1 ∧ ∃ n c, n < 100 ∧ (lo ≤ nI n ∧ nI n ≤ hi) ∧ rnV S lo hi = nI n ∧ X n ∧ (rnS S lo hi).1 2 0 = nI c ∧ (a < c ∧ c ≤ E) ∧ (nuG F k i).2.1 0 33 = nI c ∧ (nuG F k i).2.1 30 i = nI n ∧ RdM E b ℓ (nuG F k i).2 ∧ ∀ j, j ≠ i → (nuG F k i).2.1 30 j = F.2.1 30 j) := by
  have eG : nuG F k i = nuC (nuB F.2 i) k i := by unfold nuG; rw [if_neg (by rw [hF]; decide)]
  have hA : (¬ lC E ℓ a = 32 ∧ nuB F.2 i = (0, xI F.2 0 37 (nI a))) ∨ (lC E ℓ a = 32 ∧ ∃ T, nuB F.2 i = (1, T) ∧ T.1 0 33 = nI (a + 1) ∧ RdM E b ℓ T ∧ rdE F.2 T ∧ ∀ j, T.1 30 j = F.2.1 30 j) := by
    rcases hix with ⟨h0, h1, h2⟩ | ⟨h0, h2⟩
    · exact Or.inr ⟨h1, F.2, by unfold nuB; rw [if_pos h0], h2, hM, rdE_r, fun _ => rfl⟩
    · have hB := blk_c hE hb (by omega) hM h2
      by_cases q : lC E ℓ a = 32
      · rw [if_pos q] at hB
        exact Or.inr ⟨q, xI F.2 0 33 (nI (a + 1)), by unfold nuB; rw [if_neg h0, hB], xI_s, RdM_i (by omega) hM, rdE_0 rdE_r (by omega), fun j => xI_n (by omega)⟩
      · rw [if_neg q] at hB
        exact Or.inl ⟨q, by unfold nuB; rw [if_neg h0, hB]⟩
  rw [eG]
  rcases hA with ⟨q, eA⟩ | ⟨q, T, eA, t1, t2, t3, t4⟩
  · rw [eA]
    obtain ⟨z1, z2⟩ := NUM0 hE ha hX hp q lo hi
    exact Or.inl ⟨by unfold nuC; rw [if_pos rfl], a, by unfold nuC; rw [if_pos rfl]; exact xI_s, Or.inl ⟨z1, z2⟩⟩
  · rw [eA]
    have eC : nuC (1, T) k i = nuD (numM T) T k i := by unfold nuC; rw [if_neg (show ¬ (1 : Int32) = 0 by decide)]
    rw [eC]
    obtain ⟨d1, d2⟩ := numM_d t2
    have dE : rdE F.2 (numM T).2 := num_e t3
    rcases NUM hE hb ha hX hp t2 t1 q with ⟨n1, n2, n3⟩ | ⟨n, c, n1, n2, n3, n4, n5, n6⟩
    · obtain ⟨z1, z2⟩ := n3 lo hi
      exact Or.inl ⟨by unfold nuD; rw [if_pos n1], a + 1, by unfold nuD; rw [if_pos n1]; exact n2, Or.inl ⟨z1, z2⟩⟩
    · have hso := hs _ n dE n1 n4
      obtain ⟨y1, y2⟩ := n6 lo hi
      have hn0 : ¬ (numM T).1 = 0 := by rw [n3]; decide
      by_cases hr : lo ≤ nI n ∧ nI n ≤ hi
      · obtain ⟨y3, y4, y5⟩ := y1 hr
        by_cases hx : X n
        · have e : nuD (numM T) T k i = (1, xI (numM T).2 30 i ((numM T).2.1 0 35)) := by unfold nuD; rw [if_neg hn0, if_pos (hso.mpr ⟨hr, hx⟩)]
          rw [e]
          exact Or.inr ⟨rfl, n, c, n1, hr, y3, hx, y4, by omega, by rw [xI_n (by omega)]; exact n5, by rw [xI_s]; exact n4, RdM_i (by omega) d1, fun j hj => by rw [xI_n (by omega), d2, t4]⟩
        · have e : nuD (numM T) T k i = (0, xI (numM T).2 0 37 (T.1 0 33)) := by unfold nuD; rw [if_neg hn0, if_neg (fun z => hx (hso.mp z).2)]
          rw [e]
          exact Or.inl ⟨rfl, a + 1, xI_s.trans t1, Or.inr ⟨n, n1, hr, y3, hx, y5⟩⟩
      · obtain ⟨y3, y4⟩ := y2 hr
        have e : nuD (numM T) T k i = (0, xI (numM T).2 0 37 (T.1 0 33)) := by unfold nuD; rw [if_neg hn0, if_neg (fun z => hr (hso.mp z).1)]
        rw [e]
        exact Or.inl ⟨rfl, a + 1, xI_s.trans t1, Or.inl ⟨y3, y4⟩⟩
