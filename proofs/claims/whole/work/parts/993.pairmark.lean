/-! how three walkers are, packed: class and reference tell the same apart -/
def cd (v : Nat → Nat → Int32) (w : Nat) : Nat := (((tn (v 13 w) * 4 + tn (v 14 w)) * 8 + tn (v 15 w)) * 8 + tn (v 16 w)) * 2 + tn (v 17 w)
theorem cd_e {G w : Nat} {v : Nat → Nat → Int32} (hG : G ≤ 8) (hg : ∀ g, g < G → wfG v g) (h : wfW v G w) : ∃ p d g q t : Nat, (p < 49 ∧ d < 4 ∧ g < 8 ∧ q < 8 ∧ t < 2) ∧ (v 13 w = nI p ∧ v 14 w = nI d ∧ v 15 w = nI g ∧ v 16 w = nI q ∧ v 17 w = nI t) ∧ cd v w = (((p * 4 + d) * 8 + g) * 8 + q) * 2 + t := by
  obtain ⟨k, p, d, g, q, t, ⟨b1, b2, b3, b4, b5, b6⟩, e1, e2, e3, e4, e5, e6⟩ := h
  obtain ⟨l, a, ⟨l1, l2, l3⟩, f1, f2, f3⟩ := hg g b4
  rw [f1, tn_nI (by omega)] at b5
  refine ⟨p, d, g, q, t, ⟨b2, b3, by omega, by omega, b6⟩, ⟨e2, e3, e4, e5, e6⟩, ?_⟩
  unfold cd
  rw [e2, e3, e4, e5, e6, tn_nI (by omega), tn_nI (by omega), tn_nI (by omega), tn_nI (by omega), tn_nI (by omega)]
theorem cd_lt {G N w : Nat} {v : Nat → Nat → Int32} (h : WF G N v) (hw : w < N) : cd v w < 25088 := by
  obtain ⟨p, d, g, q, t, hb, -, e⟩ := cd_e h.1.1 h.2.1 (h.2.2.1 w hw)
  rw [e]; omega
theorem cd_inj {G N w : Nat} {v v' : Nat → Nat → Int32} (h : WF G N v) (h' : WF G N v') (hw : w < N) (hc : cd v w = cd v' w) : ∀ a, 13 ≤ a → a ≤ 17 → v a w = v' a w := by
  obtain ⟨p, d, g, q, t, hb, he, e⟩ := cd_e h.1.1 h.2.1 (h.2.2.1 w hw)
  obtain ⟨p', d', g', q', t', hb', he', e'⟩ := cd_e h'.1.1 h'.2.1 (h'.2.2.1 w hw)
  rw [e, e'] at hc
  have h1 : t = t' := by omega
  have h2 : q = q' := by omega
  have h3 : g = g' := by omega
  have h4 : d = d' := by omega
  have h5 : p = p' := by omega
  subst h1 h2 h3 h4 h5
  intro a a1 a2
  have : a = 13 ∨ a = 14 ∨ a = 15 ∨ a = 16 ∨ a = 17 := by omega
  rcases this with rfl | rfl | rfl | rfl | rfl
  · rw [he.1, he'.1]
  · rw [he.2.1, he'.2.1]
  · rw [he.2.2.1, he'.2.2.1]
  · rw [he.2.2.2.1, he'.2.2.2.1]
  · rw [he.2.2.2.2, he'.2.2.2.2]
/-! the class -/
def cx (N : Nat) (v : Nat → Nat → Int32) (w : Nat) : Nat := if w < N then cd v w else 0
theorem cx_lt {G N w : Nat} {v : Nat → Nat → Int32} (h : WF G N v) : cx N v w < 25088 := by
  unfold cx
  split
  · rename_i hw; exact cd_lt h hw
  · omega
theorem pkW_c {B G N w : Nat} {S : xS} {v : Nat → Nat → Int32} (hT : TW B G N S v) (hW : WF G N v) (hw : w < N) : pkW S (B + 20 + w) = nI (cd v w) := by
  obtain ⟨p, d, g, q, t, hb, he, e⟩ := cd_e hW.1.1 hW.2.1 (hW.2.2.1 w hw)
  obtain ⟨k0, k1, k2, k3, k4, k5, k6⟩ := hT.2.2.1 w hw
  unfold pkW
  rw [k1, k2, k3, k4, k5, he.1, he.2.1, he.2.2.1, he.2.2.2.1, he.2.2.2.2, e]
  rw [show (4 : Int32) = nI 4 from rfl, show (8 : Int32) = nI 8 from rfl, show (2 : Int32) = nI 2 from rfl, pk_mul, nI_add, pk_mul, nI_add, pk_mul, nI_add, pk_mul, nI_add]
theorem pk_i {B G N x i : Nat} {S : xS} {v : Nat → Nat → Int32} (hT : TW B G N S v) (hW : WF G N v) (hx : x + i < 6) : (if S.1 B 2 ≤ nI x + nI i then (0 : Int32) else pkW S (whoK B (nI x + nI i))).toInt64 = lN (cx N v (x + i)) := by
  have hN := hW.1.2.1
  rw [nI_add, hT.1.2, whoK_n hx]
  unfold cx
  by_cases h : x + i < N
  · rw [if_neg (fun q => by have := (nI_leI (by omega) (by omega)).mp q; omega), if_pos h, pkW_c hT hW h, nI_l (by have := cd_lt hW h; omega)]
  · rw [if_pos (nI_le (by omega) (by omega)), if_neg h]; rfl
theorem sm15 : (BitVec.ofNat 64 15).smod 64 = BitVec.ofNat 64 15 := by decide +kernel
theorem ix15 : ((15 : Int32).toInt64 &&& 63) = lN 15 := by decide +kernel
theorem sh15 (A : Nat) : xlshl (lN A) 15 = lN (A * 32768) := by
  show lN A <<< ((15 : Int32).toInt64 &&& 63) = _
  rw [ix15]
  apply Int64.toBitVec_inj.mp
  rw [Int64.toBitVec_shiftLeft]
  show BitVec.ofNat 64 A <<< ((BitVec.ofNat 64 15).smod 64) = BitVec.ofNat 64 (A * 32768)
  rw [sm15]
  apply BitVec.eq_of_toNat_eq
  rw [BitVec.shiftLeft_eq', BitVec.toNat_shiftLeft, BitVec.toNat_ofNat, BitVec.toNat_ofNat, BitVec.toNat_ofNat, Nat.mod_eq_of_lt (show 15 < 2 ^ 64 by omega), Nat.shiftLeft_eq, Nat.mul_mod, Nat.mod_mod, ← Nat.mul_mod]
theorem or15 {A c : Nat} (hc : c < 32768) (hA : A < 2 ^ 40) : lN (A * 32768) ||| lN c = lN (A * 32768 + c) := by
  apply Int64.toBitVec_inj.mp
  rw [Int64.toBitVec_or]
  show BitVec.ofNat 64 (A * 32768) ||| BitVec.ofNat 64 c = BitVec.ofNat 64 (A * 32768 + c)
  apply BitVec.eq_of_toNat_eq
  have h1 : A * 2 ^ 15 ||| c = A * 2 ^ 15 + c := by rw [← Nat.shiftLeft_eq, Nat.shiftLeft_add_eq_or_of_lt (by omega)]
  rw [BitVec.toNat_or, BitVec.toNat_ofNat, BitVec.toNat_ofNat, BitVec.toNat_ofNat, Nat.mod_eq_of_lt (by omega), Nat.mod_eq_of_lt (by omega), Nat.mod_eq_of_lt (by omega)]
  exact h1
theorem pk_s {A c : Nat} (hc : c < 32768) (hA : A < 2 ^ 40) : xlshl (lN A) 15 ||| lN c = lN (A * 32768 + c) := by
  rw [sh15, or15 hc hA]
def pkN (N x : Nat) (v : Nat → Nat → Int32) : Nat := (cx N v (x + 0) * 32768 + cx N v (x + 1)) * 32768 + cx N v (x + 2)
theorem pkX_c {B G N x : Nat} {S : xS} {v : Nat → Nat → Int32} (hT : TW B G N S v) (hW : WF G N v) (hx : x ≤ 3) : pkX S B (nI x) 3 = lN (pkN N x v) := by
  have l0 := cx_lt (w := x + 0) hW
  have l1 := cx_lt (w := x + 1) hW
  have l2 := cx_lt (w := x + 2) hW
  have e0 : pkX S B (nI x) 1 = lN (cx N v (x + 0)) := by
    show xlshl (0 : Int64) 15 ||| _ = _
    rw [pk_i hT hW (i := 0) (by omega), show (0 : Int64) = lN 0 from rfl, pk_s (by omega) (by omega)]
    rw [Nat.zero_mul, Nat.zero_add]
  have e1 : pkX S B (nI x) 2 = lN (cx N v (x + 0) * 32768 + cx N v (x + 1)) := by
    show xlshl (pkX S B (nI x) 1) 15 ||| _ = _
    rw [pk_i hT hW (i := 1) (by omega), e0, pk_s (by omega) (by omega)]
  show xlshl (pkX S B (nI x) 2) 15 ||| _ = _
  rw [pk_i hT hW (i := 2) (by omega), e1, pk_s (by omega) (by omega)]
  rfl
/-! the reference -/
def mkN (v : Nat → Nat → Int32) (x : Nat) : Nat → Nat
  | 0 => 0
  | i + 1 => mkN v x i * 25088 + cd v (x + i)
theorem mk1_c {G N w A : Nat} {T : xS} (hW : WF G N T.1) (hw : w < N) : mk1 T (lN A) w = lN (A * 25088 + cd T.1 w) := by
  obtain ⟨p, d, g, q, t, hb, he, e⟩ := cd_e hW.1.1 hW.2.1 (hW.2.2.1 w hw)
  unfold mk1
  rw [he.1, he.2.1, he.2.2.1, he.2.2.2.1, he.2.2.2.2, e, nI_l (by omega), nI_l (by omega), nI_l (by omega), nI_l (by omega), nI_l (by omega)]
  rw [show (49 : Int64) = lN 49 from rfl, show (4 : Int64) = lN 4 from rfl, show (8 : Int64) = lN 8 from rfl, show (2 : Int64) = lN 2 from rfl, lN_mul, lN_add, lN_mul, lN_add, lN_mul, lN_add, lN_mul, lN_add, lN_mul, lN_add]
  congr 1
  omega
theorem mkF_c {G N x : Nat} {T : xS} (hW : WF G N T.1) : ∀ i, x + i ≤ N → mkF T (nI x) i = lN (mkN T.1 x i)
  | 0, _ => rfl
  | i + 1, hi => by
    have hN := hW.1.2.1
    rw [mkF_s, mkF_c hW i (by omega), nI_add, tn_nI (by omega), mk1_c hW (by omega)]
    rfl
theorem mkV_c {G N x : Nat} {T : xS} (hW : WF G N T.1) (hx : x ≤ 3) : mkV T (nI x) = lN (mkN T.1 x (min 3 (N - x))) := by
  have hN := hW.1.2.1
  have hE : ∀ i, i < 3 → (mkE T (nI x) i = true ↔ N ≤ x + i) := fun i hi => by
    unfold mkE
    rw [decide_eq_true_iff, hW.1.2.2.2, nI_add, nI_leI (by omega) (by omega)]
  have e : xfs (mkE T (nI x)) 3 = min 3 (N - x) := by
    by_cases h3 : x + 3 ≤ N
    · rw [xfs_no (fun i hi => ?_)]
      · omega
      · have := hE i hi
        cases hb : mkE T (nI x) i with
        | false => rfl
        | true => have := this.mp hb; omega
    · rw [xfs_at (i := min 3 (N - x)) (by omega) ((hE _ (by omega)).mpr (by omega)) (fun j hj => ?_)]
      have := hE j (by omega)
      cases hb : mkE T (nI x) j with
      | false => rfl
      | true => have := this.mp hb; omega
  unfold mkV
  rw [e]
  by_cases h0 : x ≤ N
  · exact mkF_c hW _ (by omega)
  · rw [show min 3 (N - x) = 0 by omega]; rfl
theorem mkN_lt {G N x : Nat} {v : Nat → Nat → Int32} (hW : WF G N v) : ∀ i, x + i ≤ N → mkN v x i < 25088 ^ i
  | 0, _ => Nat.one_pos
  | i + 1, hi => by
    have ih := mkN_lt (x := x) hW i (by omega)
    have hc := cd_lt (w := x + i) hW (by omega)
    rw [mkN, Nat.pow_succ]
    have := Nat.mul_le_mul_right 25088 (Nat.succ_le_of_lt ih)
    omega
theorem mkN_inj {G N x : Nat} {v v' : Nat → Nat → Int32} (hW : WF G N v) (hW' : WF G N v') : ∀ i, x + i ≤ N → (mkN v x i = mkN v' x i ↔ ∀ j, j < i → cd v (x + j) = cd v' (x + j))
  | 0, _ => ⟨fun _ j hj => absurd hj (Nat.not_lt_zero _), fun _ => rfl⟩
  | i + 1, hi => by
    have ih := mkN_inj (x := x) hW hW' i (by omega)
    have hc := cd_lt (w := x + i) hW (by omega)
    have hc' := cd_lt (w := x + i) hW' (by omega)
    rw [mkN, mkN]
    constructor
    · intro h j hj
      have h1 : mkN v x i = mkN v' x i := by omega
      have h2 : cd v (x + i) = cd v' (x + i) := by omega
      by_cases e : j = i
      · rw [e]; exact h2
      · exact ih.mp h1 j (by omega)
    · intro h
      rw [ih.mpr (fun j hj => h j (by omega)), h i (by omega)]
/-- all alike, as told by the codes -/
def EQ (N : Nat) (v v' : Nat → Nat → Int32) : Prop := ∀ w, w < N → cd v w = cd v' w
theorem EQ_pk {G N : Nat} {v v' : Nat → Nat → Int32} (hW : WF G N v) (hW' : WF G N v') : (lN (pkN N 0 v) = lN (pkN N 0 v') ∧ lN (pkN N 3 v) = lN (pkN N 3 v')) ↔ EQ N v v' := by
  have hN := hW.1.2.1
  have hb : ∀ x, pkN N x v < 2 ^ 63 ∧ pkN N x v' < 2 ^ 63 := fun x => by
    have l0 := cx_lt (w := x + 0) hW
    have l1 := cx_lt (w := x + 1) hW
    have l2 := cx_lt (w := x + 2) hW
    have m0 := cx_lt (w := x + 0) hW'
    have m1 := cx_lt (w := x + 1) hW'
    have m2 := cx_lt (w := x + 2) hW'
    unfold pkN
    omega
  have hp : ∀ x, pkN N x v = pkN N x v' ↔ (cx N v (x + 0) = cx N v' (x + 0) ∧ cx N v (x + 1) = cx N v' (x + 1) ∧ cx N v (x + 2) = cx N v' (x + 2)) := fun x => by
    have l0 := cx_lt (w := x + 0) hW
    have l1 := cx_lt (w := x + 1) hW
    have l2 := cx_lt (w := x + 2) hW
    have m0 := cx_lt (w := x + 0) hW'
    have m1 := cx_lt (w := x + 1) hW'
    have m2 := cx_lt (w := x + 2) hW'
    unfold pkN
    omega
  rw [pk_lEQ (hb 0).1 (hb 0).2, pk_lEQ (hb 3).1 (hb 3).2, hp, hp]
  have hc : ∀ w, w < N → (cx N v w = cx N v' w ↔ cd v w = cd v' w) := fun w hw => by unfold cx; rw [if_pos hw, if_pos hw]
  have hn : ∀ w, ¬ w < N → cx N v w = cx N v' w := fun w hw => by unfold cx; rw [if_neg hw, if_neg hw]
  constructor
  · rintro ⟨⟨a0, a1, a2⟩, a3, a4, a5⟩ w hw
    refine (hc w hw).mp ?_
    have : w = 0 ∨ w = 1 ∨ w = 2 ∨ w = 3 ∨ w = 4 ∨ w = 5 := by omega
    rcases this with rfl | rfl | rfl | rfl | rfl | rfl <;> assumption
  · intro h
    have hx : ∀ w, cx N v w = cx N v' w := fun w => by
      by_cases hw : w < N
      · exact (hc w hw).mpr (h w hw)
      · exact hn w hw
    exact ⟨⟨hx _, hx _, hx _⟩, hx _, hx _, hx _⟩
theorem EQ_mk {G N : Nat} {v v' : Nat → Nat → Int32} (hW : WF G N v) (hW' : WF G N v') : (lN (mkN v 0 (min 3 (N - 0))) = lN (mkN v' 0 (min 3 (N - 0))) ∧ lN (mkN v 3 (min 3 (N - 3))) = lN (mkN v' 3 (min 3 (N - 3)))) ↔ EQ N v v' := by
  have hN := hW.1.2.1
  have hlt : ∀ x i, i ≤ 3 → ∀ u, WF G N u → x + i ≤ N ∨ i = 0 → mkN u x i < 2 ^ 63 := fun x i hi u hu h => by
    rcases h with h | h
    · have := mkN_lt (x := x) hu i h
      have h2 : 25088 ^ i ≤ 25088 ^ 3 := Nat.pow_le_pow_right (by omega) hi
      have h3 : 25088 ^ 3 < 2 ^ 63 := by decide
      omega
    · subst h; exact Nat.lt_of_lt_of_le Nat.one_pos (by decide)
  have h0 : min 3 (N - 0) ≤ 3 ∧ (0 + min 3 (N - 0) ≤ N ∨ min 3 (N - 0) = 0) := by omega
  have h3 : min 3 (N - 3) ≤ 3 ∧ (3 + min 3 (N - 3) ≤ N ∨ min 3 (N - 3) = 0) := by omega
  rw [pk_lEQ (hlt 0 _ h0.1 v hW h0.2) (hlt 0 _ h0.1 v' hW' h0.2), pk_lEQ (hlt 3 _ h3.1 v hW h3.2) (hlt 3 _ h3.1 v' hW' h3.2)]
  have i0 : mkN v 0 (min 3 (N - 0)) = mkN v' 0 (min 3 (N - 0)) ↔ ∀ j, j < min 3 (N - 0) → cd v (0 + j) = cd v' (0 + j) := mkN_inj hW hW' _ (by omega)
  have i3 : mkN v 3 (min 3 (N - 3)) = mkN v' 3 (min 3 (N - 3)) ↔ ∀ j, j < min 3 (N - 3) → cd v (3 + j) = cd v' (3 + j) := by
    by_cases h : 3 ≤ N
    · exact mkN_inj hW hW' _ (by omega)
    · rw [show min 3 (N - 3) = 0 by omega]
      exact ⟨fun _ j hj => absurd hj (Nat.not_lt_zero _), fun _ => rfl⟩
  rw [i0, i3]
  constructor
  · rintro ⟨a, b⟩ w hw
    by_cases h : w < 3
    · have := a w (by omega)
      rwa [Nat.zero_add] at this
    · have := b (w - 3) (by omega)
      rwa [show 3 + (w - 3) = w by omega] at this
  · intro h
    exact ⟨fun j hj => h _ (by omega), fun j hj => h _ (by omega)⟩
