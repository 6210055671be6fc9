def xlk {α : Type} : List (Nat × α) → Nat → Option α
  | [], _ => none
  | (k, v) :: r, i => if i = k then some v else xlk r i
theorem xlk_mem {α : Type} : ∀ {l : List (Nat × α)} {i : Nat} {v : α}, xlk l i = some v → (i, v) ∈ l
  | [], i, v, h => by cases h
  | (k, u) :: r, i, v, h => by
    unfold xlk at h
    split at h
    · rename_i e
      cases h
      rw [e]
      exact List.mem_cons_self
    · exact List.mem_cons_of_mem _ (xlk_mem h)
def xfw (own : String) (l : List (Nat × Nat × Nat × Nat)) : List Cond := (l.filter (fun q => decide (q.2.2.2 < 4))).map (fun q => Jvm.Cond.fieldLink own q.1 (xTT q.2.1 q.2.2.1).1 (xTT q.2.1 q.2.2.1).2.1 (xTT q.2.1 q.2.2.1).2.2.1)
def xfc (own : String) (q : Nat × Nat × Nat × Nat) : Bool := decide (q.2.1 < 8) && decide (q.2.2.1 < xNf q.2.1) && decide (q.2.2.2 < 5) && (match q.2.2.2, xTy q.2.1 q.2.2.1 with
  | 0, .int => !(xTT q.2.1 q.2.2.1).2.2.2
  | 1, .boolean => !(xTT q.2.1 q.2.2.1).2.2.2
  | 2, .long => !(xTT q.2.1 q.2.2.1).2.2.2
  | 3, .object _ => true
  | 3, .array _ => true
  | 4, _ => decide (own = RX4) && (decide ((q.1, q.2.1, q.2.2.1) = (179, 5, 8)) || decide ((q.1, q.2.1, q.2.2.1) = (185, 5, 10)))
  | _, _ => false)
theorem xFt_of {own : String} {l : List (Nat × Nat × Nat × Nat)} (hw : ∀ w ∈ xfw own l, w ∈ xBig) (h : l.all (xfc own) = true) : xFt own (xlk l) := by
  intro idx ci f t hq
  have h1 := List.all_eq_true.mp h _ (xlk_mem hq)
  simp only [xfc, Bool.and_eq_true, Bool.or_eq_true, decide_eq_true_eq] at h1
  obtain ⟨⟨⟨g1, g2⟩, g3⟩, g6⟩ := h1
  refine ⟨⟨g1, g2, g3⟩, fun e => ?_, fun e => ?_, fun e => ?_, fun e => ?_, fun e => ?_, fun e => ?_⟩
  · exact hw _ (List.mem_map.mpr ⟨_, List.mem_filter.mpr ⟨xlk_mem hq, decide_eq_true e⟩, rfl⟩)
  · subst e; revert g6; cases xTy ci f <;> simp
  · subst e; revert g6; cases xTy ci f <;> simp
  · subst e; revert g6; cases xTy ci f <;> simp
  · subst e; revert g6; cases xTy ci f <;> simp
  · subst e
    simp only [Bool.and_eq_true, Bool.or_eq_true, decide_eq_true_eq] at g6
    exact g6
theorem xKs_nil {own : String} : xKs own (xlk []) := fun idx v h => by cases h
theorem xGs_nil {own : String} : xGs own (xlk []) := fun idx v h => by cases h
def xkc (own : String) (q : Nat × Value) : Bool := match q.2 with
  | .int x => decide (Jvm.Cond.constant own q.1 x ∈ lw_tbl) && goodWord (Jvm.Cond.constant own q.1 x)
  | .long x => decide (Jvm.Cond.constantLong own q.1 x ∈ lw_tbl) && goodWord (Jvm.Cond.constantLong own q.1 x)
  | .ref a => decide (own = RX2) && decide (910 ≤ a) && decide (a < 915) && decide (q.1 = 81 + 2 * (a - 910))
  | _ => false
theorem xKs_of {own : String} {l : List (Nat × Value)} (h : l.all (xkc own) = true) : xKs own (xlk l) := by
  intro idx v hq
  have h1 := List.all_eq_true.mp h _ (xlk_mem hq)
  cases v with
  | int x => simp only [xkc, Bool.and_eq_true, decide_eq_true_eq] at h1; exact List.mem_filter.mpr h1
  | long x => simp only [xkc, Bool.and_eq_true, decide_eq_true_eq] at h1; exact List.mem_filter.mpr h1
  | ref a =>
    simp only [xkc, Bool.and_eq_true, decide_eq_true_eq] at h1
    obtain ⟨⟨⟨g1, g2⟩, g3⟩, g4⟩ := h1
    have key : ∀ b : Nat, 910 ≤ b → b < 915 → idx = 81 + 2 * (b - 910) → ∃ i, i < 5 ∧ idx = 81 + 2 * i ∧ b = 910 + i := fun b q1 q2 q3 => ⟨b - 910, by omega, q3, by omega⟩
    exact ⟨g1, key a g2 g3 g4⟩
  | _ => exact absurd h1 (by simp [xkc])
theorem xcal_nil {w : xD} {nL : Nat} {cc : ByteArray} {own : String} {d : Nat} : ∀ idx q, xlk ([] : List (Nat × xCall)) idx = some q → xCk w nL cc own d idx q := fun idx q h => by cases h
theorem xcal_cons {w : xD} {nL : Nat} {cc : ByteArray} {own : String} {d : Nat} {i : Nat} {v : xCall} {r : List (Nat × xCall)} (h : xCk w nL cc own d i v) (hr : ∀ idx q, xlk r idx = some q → xCk w nL cc own d idx q) : ∀ idx q, xlk ((i, v) :: r) idx = some q → xCk w nL cc own d idx q := by
  intro idx q hq
  unfold xlk at hq
  split at hq
  · rename_i e
    cases hq
    rw [e]
    exact h
  · exact hr idx q hq
/-! the program's world: 0 itself, 1 its row of shelves, 2 the reader, 3 its letters, 4 the acts, 5 their bodies, 6 refusals, 7 and 8 the ring's marks, 10 on shelves, 20 on their elements; a town B (100, 200, 300, 400): B, its gaits' row B + 1, its crowd B + 2, its two stand-ins, its gaits B + 10 on, its walkers B + 20 on -/
def kdX (K : Nat) : Nat := if K < 100 then (match K with | 0 => 11 | 1 => 2 | 2 => 7 | 3 => 0 | 4 => 5 | 5 => 0 | 6 => 0 | 7 => 1 | 8 => 1 | _ => if K < 20 then 8 else 1) else (match K % 100 with | 0 => 9 | 1 => 3 | 2 => 4 | 3 => 6 | 4 => 10 | r => if r < 20 then 6 else 10)
def lnX (K : Nat) : Nat := if K < 100 then (match K with | 1 => 8 | 3 => 160 | 5 => 20 | 6 => 8 | 7 => 401 | 8 => 401 | _ => 160) else (match K % 100 with | 1 => 8 | _ => 6)
def rkX (K f : Nat) : Nat := if K < 100 then (match K with | 0 => (match f with | 0 => 1 | 1 => 100 | 2 => 200 | 3 => 300 | 4 => 2 | 5 => 4 | 6 => 6 | 7 => 7 | _ => 8) | 1 => 10 + f | 2 => (match f with | 4 => 3 | _ => 400) | 4 => 5 | _ => K + 10) else (match K % 100 with | 0 => (match f with | 6 => K + 1 | 7 => K + 2 | 8 => K + 3 | _ => K + 4) | 1 => K + 9 + f | _ => K + 18 + f)
def kyT (B : Nat) : List Nat := [B, B + 1, B + 2, B + 3, B + 4, B + 10, B + 11, B + 12, B + 13, B + 14, B + 15, B + 16, B + 17, B + 20, B + 21, B + 22, B + 23, B + 24, B + 25]
def kyX : List Nat := [0, 1, 2, 3, 4, 5, 6, 7, 8, 10, 11, 12, 13, 14, 15, 16, 17, 20, 21, 22, 23, 24, 25, 26, 27] ++ kyT 100 ++ kyT 200 ++ kyT 300 ++ kyT 400
def WX : xD := (kyX, kdX, lnX, rkX)
theorem WX_nd : WX.1.Nodup := by decide +kernel
/-! the reference's world: 0 itself, a row by the number of its field -/
def kdM (K : Nat) : Nat := if K = 0 then 12 else if K = 27 ∨ K = 28 ∨ K = 45 ∨ K = 46 then 1 else 0
def lnM (K : Nat) : Nat := [0, 0, 0, 0, 0, 0, 8, 64, 8, 8, 49, 6, 6, 6, 6, 6, 6, 6, 6, 6, 6, 6, 6, 8, 8, 8, 8, 1280, 160, 32, 5, 8, 0, 0, 0, 0, 0, 0, 200, 200, 6, 6, 6, 6, 6, 401, 401, 20].getD K 0
def kyM : List Nat := [0, 6, 7, 8, 9, 10, 11, 12, 13, 14, 15, 16, 17, 18, 19, 20, 21, 22, 23, 24, 25, 26, 27, 28, 29, 30, 31, 38, 39, 40, 41, 42, 43, 44, 45, 46, 47]
def WM : xD := (kyM, kdM, lnM, fun _ f => f)
theorem WM_nd : WM.1.Nodup := by decide +kernel
def fldX0 : List (Nat × Nat × Nat × Nat) := [(9, 0, 0, 0), (15, 0, 1, 0), (18, 0, 2, 0), (21, 0, 3, 0), (24, 0, 4, 3)]
set_option maxRecDepth 200000 in
theorem fldX0_ok : xFt RX0 (xlk fldX0) := xFt_of (xBig_ix [(1, 189), (1, 191), (1, 192), (1, 193), (1, 194)] (by decide +kernel)) (by decide +kernel)
theorem fl_X0_9 : xlk fldX0 9 = some (0, 0, 0) := rfl
theorem fl_X0_15 : xlk fldX0 15 = some (0, 1, 0) := rfl
theorem fl_X0_18 : xlk fldX0 18 = some (0, 2, 0) := rfl
theorem fl_X0_21 : xlk fldX0 21 = some (0, 3, 0) := rfl
theorem fl_X0_24 : xlk fldX0 24 = some (0, 4, 3) := rfl
def fldX1 : List (Nat × Nat × Nat × Nat) := [(9, 1, 0, 0), (15, 1, 1, 0), (18, 1, 2, 0)]
set_option maxRecDepth 200000 in
theorem fldX1_ok : xFt RX1 (xlk fldX1) := xFt_of (xBig_ix [(1, 42), (1, 45), (1, 48)] (by decide +kernel)) (by decide +kernel)
theorem fl_X1_9 : xlk fldX1 9 = some (1, 0, 0) := rfl
theorem fl_X1_15 : xlk fldX1 15 = some (1, 1, 0) := rfl
theorem fl_X1_18 : xlk fldX1 18 = some (1, 2, 0) := rfl
def fldX2 : List (Nat × Nat × Nat × Nat) := [(9, 2, 0, 0), (15, 2, 1, 1), (19, 2, 2, 0), (22, 2, 3, 0), (25, 2, 4, 3), (32, 2, 5, 3), (40, 3, 1, 0), (148, 4, 1, 0)]
set_option maxRecDepth 200000 in
theorem fldX2_ok : xFt RX2 (xlk fldX2) := xFt_of (xBig_ix [(1, 160), (1, 162), (1, 164), (1, 165), (1, 166), (1, 167), (1, 214), (1, 117)] (by decide +kernel)) (by decide +kernel)
theorem fl_X2_9 : xlk fldX2 9 = some (2, 0, 0) := rfl
theorem fl_X2_15 : xlk fldX2 15 = some (2, 1, 1) := rfl
theorem fl_X2_19 : xlk fldX2 19 = some (2, 2, 0) := rfl
theorem fl_X2_22 : xlk fldX2 22 = some (2, 3, 0) := rfl
theorem fl_X2_25 : xlk fldX2 25 = some (2, 4, 3) := rfl
theorem fl_X2_32 : xlk fldX2 32 = some (2, 5, 3) := rfl
theorem fl_X2_40 : xlk fldX2 40 = some (3, 1, 0) := rfl
theorem fl_X2_148 : xlk fldX2 148 = some (4, 1, 0) := rfl
def ksX2 : List (Nat × Value) := [(81, .ref 910), (83, .ref 911), (85, .ref 912), (87, .ref 913), (89, .ref 914)]
set_option maxRecDepth 200000 in
theorem ksX2_ok : xKs RX2 (xlk ksX2) := xKs_of (by decide +kernel)
theorem ks_X2_81 : xlk ksX2 81 = some (.ref 910) := rfl
theorem ks_X2_83 : xlk ksX2 83 = some (.ref 911) := rfl
theorem ks_X2_85 : xlk ksX2 85 = some (.ref 912) := rfl
theorem ks_X2_87 : xlk ksX2 87 = some (.ref 913) := rfl
theorem ks_X2_89 : xlk ksX2 89 = some (.ref 914) := rfl
def fldX3 : List (Nat × Nat × Nat × Nat) := [(9, 3, 0, 0), (15, 3, 1, 0), (18, 3, 2, 3)]
set_option maxRecDepth 200000 in
theorem fldX3_ok : xFt RX3 (xlk fldX3) := xFt_of (xBig_ix [(1, 211), (1, 213), (1, 216)] (by decide +kernel)) (by decide +kernel)
theorem fl_X3_9 : xlk fldX3 9 = some (3, 0, 0) := rfl
theorem fl_X3_15 : xlk fldX3 15 = some (3, 1, 0) := rfl
theorem fl_X3_18 : xlk fldX3 18 = some (3, 2, 3) := rfl
def fldX4 : List (Nat × Nat × Nat × Nat) := [(9, 4, 0, 2), (15, 4, 1, 0), (19, 4, 2, 0), (22, 4, 3, 0), (25, 4, 4, 0), (28, 4, 5, 0), (33, 4, 6, 3), (39, 4, 7, 3), (44, 4, 8, 3), (49, 4, 9, 3), (72, 1, 0, 0), (75, 1, 1, 0), (78, 1, 2, 0), (81, 5, 0, 0), (84, 5, 1, 0), (87, 5, 2, 0), (90, 5, 3, 0), (93, 5, 4, 0), (96, 5, 5, 0), (99, 5, 6, 0), (151, 5, 7, 1), (179, 5, 8, 4), (185, 5, 10, 4)]
set_option maxRecDepth 200000 in
theorem fldX4_ok : xFt RX4 (xlk fldX4) := xFt_of (xBig_ix [(1, 114), (1, 116), (1, 119), (1, 121), (1, 123), (1, 125), (1, 127), (1, 128), (1, 129), (1, 130), (1, 44), (1, 47), (1, 49), (1, 64), (1, 66), (1, 69), (1, 71), (1, 74), (1, 77), (1, 79), (1, 82)] (by decide +kernel)) (by decide +kernel)
theorem fl_X4_9 : xlk fldX4 9 = some (4, 0, 2) := rfl
theorem fl_X4_15 : xlk fldX4 15 = some (4, 1, 0) := rfl
theorem fl_X4_19 : xlk fldX4 19 = some (4, 2, 0) := rfl
theorem fl_X4_22 : xlk fldX4 22 = some (4, 3, 0) := rfl
theorem fl_X4_25 : xlk fldX4 25 = some (4, 4, 0) := rfl
theorem fl_X4_28 : xlk fldX4 28 = some (4, 5, 0) := rfl
theorem fl_X4_33 : xlk fldX4 33 = some (4, 6, 3) := rfl
theorem fl_X4_39 : xlk fldX4 39 = some (4, 7, 3) := rfl
theorem fl_X4_44 : xlk fldX4 44 = some (4, 8, 3) := rfl
theorem fl_X4_49 : xlk fldX4 49 = some (4, 9, 3) := rfl
theorem fl_X4_72 : xlk fldX4 72 = some (1, 0, 0) := rfl
theorem fl_X4_75 : xlk fldX4 75 = some (1, 1, 0) := rfl
theorem fl_X4_78 : xlk fldX4 78 = some (1, 2, 0) := rfl
theorem fl_X4_81 : xlk fldX4 81 = some (5, 0, 0) := rfl
theorem fl_X4_84 : xlk fldX4 84 = some (5, 1, 0) := rfl
theorem fl_X4_87 : xlk fldX4 87 = some (5, 2, 0) := rfl
theorem fl_X4_90 : xlk fldX4 90 = some (5, 3, 0) := rfl
theorem fl_X4_93 : xlk fldX4 93 = some (5, 4, 0) := rfl
theorem fl_X4_96 : xlk fldX4 96 = some (5, 5, 0) := rfl
theorem fl_X4_99 : xlk fldX4 99 = some (5, 6, 0) := rfl
theorem fl_X4_151 : xlk fldX4 151 = some (5, 7, 1) := rfl
theorem fl_X4_179 : xlk fldX4 179 = some (5, 8, 4) := rfl
theorem fl_X4_185 : xlk fldX4 185 = some (5, 10, 4) := rfl
def ksX4 : List (Nat × Value) := [(102, .long (-1)), (198, .int 1103515245)]
set_option maxRecDepth 200000 in
theorem ksX4_ok : xKs RX4 (xlk ksX4) := xKs_of (by decide +kernel)
theorem ks_X4_102 : xlk ksX4 102 = some (.long (-1)) := rfl
theorem ks_X4_198 : xlk ksX4 198 = some (.int 1103515245) := rfl
def fldX5 : List (Nat × Nat × Nat × Nat) := [(9, 5, 0, 0), (15, 5, 1, 0), (18, 5, 2, 0), (21, 5, 3, 0), (24, 5, 4, 0), (27, 5, 5, 0), (30, 5, 6, 0), (33, 5, 7, 1), (37, 5, 8, 0), (40, 5, 9, 0), (43, 5, 10, 0), (46, 5, 11, 0)]
set_option maxRecDepth 200000 in
theorem fldX5_ok : xFt RX5 (xlk fldX5) := xFt_of (xBig_ix [(1, 62), (1, 65), (1, 68), (1, 70), (1, 73), (1, 76), (1, 78), (1, 81), (1, 83), (1, 85), (1, 86), (1, 88)] (by decide +kernel)) (by decide +kernel)
theorem fl_X5_9 : xlk fldX5 9 = some (5, 0, 0) := rfl
theorem fl_X5_15 : xlk fldX5 15 = some (5, 1, 0) := rfl
theorem fl_X5_18 : xlk fldX5 18 = some (5, 2, 0) := rfl
theorem fl_X5_21 : xlk fldX5 21 = some (5, 3, 0) := rfl
theorem fl_X5_24 : xlk fldX5 24 = some (5, 4, 0) := rfl
theorem fl_X5_27 : xlk fldX5 27 = some (5, 5, 0) := rfl
theorem fl_X5_30 : xlk fldX5 30 = some (5, 6, 0) := rfl
theorem fl_X5_33 : xlk fldX5 33 = some (5, 7, 1) := rfl
theorem fl_X5_37 : xlk fldX5 37 = some (5, 8, 0) := rfl
theorem fl_X5_40 : xlk fldX5 40 = some (5, 9, 0) := rfl
theorem fl_X5_43 : xlk fldX5 43 = some (5, 10, 0) := rfl
theorem fl_X5_46 : xlk fldX5 46 = some (5, 11, 0) := rfl
def fldX6 : List (Nat × Nat × Nat × Nat) := [(11, 6, 0, 3), (18, 6, 1, 3), (22, 6, 2, 3), (25, 6, 3, 3), (31, 6, 4, 3), (38, 6, 5, 3), (42, 6, 6, 3), (46, 6, 7, 3), (50, 6, 8, 3), (53, 6, 9, 1), (57, 6, 10, 0), (93, 3, 0, 0), (118, 5, 0, 0), (130, 3, 1, 0), (155, 1, 0, 0), (158, 1, 1, 0), (191, 2, 1, 1), (194, 2, 0, 0), (197, 2, 5, 3), (213, 4, 2, 0), (216, 5, 3, 0), (223, 5, 1, 0), (255, 4, 1, 0), (270, 5, 4, 0), (273, 4, 5, 0), (279, 5, 6, 0), (288, 4, 0, 2), (298, 4, 3, 0), (301, 4, 4, 0), (304, 0, 0, 0)]
set_option maxRecDepth 200000 in
theorem fldX6_ok : xFt RX6 (xlk fldX6) := xFt_of (xBig_ix [(1, 225), (1, 226), (1, 227), (1, 228), (1, 229), (1, 230), (1, 231), (1, 232), (1, 233), (1, 234), (1, 235), (1, 212), (1, 63), (1, 215), (1, 43), (1, 46), (1, 163), (1, 161), (1, 168), (1, 120), (1, 72), (1, 67), (1, 118), (1, 75), (1, 126), (1, 80), (1, 115), (1, 122), (1, 124), (1, 190)] (by decide +kernel)) (by decide +kernel)
theorem fl_X6_11 : xlk fldX6 11 = some (6, 0, 3) := rfl
theorem fl_X6_18 : xlk fldX6 18 = some (6, 1, 3) := rfl
theorem fl_X6_22 : xlk fldX6 22 = some (6, 2, 3) := rfl
theorem fl_X6_25 : xlk fldX6 25 = some (6, 3, 3) := rfl
theorem fl_X6_31 : xlk fldX6 31 = some (6, 4, 3) := rfl
theorem fl_X6_38 : xlk fldX6 38 = some (6, 5, 3) := rfl
theorem fl_X6_42 : xlk fldX6 42 = some (6, 6, 3) := rfl
theorem fl_X6_46 : xlk fldX6 46 = some (6, 7, 3) := rfl
theorem fl_X6_50 : xlk fldX6 50 = some (6, 8, 3) := rfl
theorem fl_X6_53 : xlk fldX6 53 = some (6, 9, 1) := rfl
theorem fl_X6_57 : xlk fldX6 57 = some (6, 10, 0) := rfl
theorem fl_X6_93 : xlk fldX6 93 = some (3, 0, 0) := rfl
theorem fl_X6_118 : xlk fldX6 118 = some (5, 0, 0) := rfl
theorem fl_X6_130 : xlk fldX6 130 = some (3, 1, 0) := rfl
theorem fl_X6_155 : xlk fldX6 155 = some (1, 0, 0) := rfl
theorem fl_X6_158 : xlk fldX6 158 = some (1, 1, 0) := rfl
theorem fl_X6_191 : xlk fldX6 191 = some (2, 1, 1) := rfl
theorem fl_X6_194 : xlk fldX6 194 = some (2, 0, 0) := rfl
theorem fl_X6_197 : xlk fldX6 197 = some (2, 5, 3) := rfl
theorem fl_X6_213 : xlk fldX6 213 = some (4, 2, 0) := rfl
theorem fl_X6_216 : xlk fldX6 216 = some (5, 3, 0) := rfl
theorem fl_X6_223 : xlk fldX6 223 = some (5, 1, 0) := rfl
theorem fl_X6_255 : xlk fldX6 255 = some (4, 1, 0) := rfl
theorem fl_X6_270 : xlk fldX6 270 = some (5, 4, 0) := rfl
theorem fl_X6_273 : xlk fldX6 273 = some (4, 5, 0) := rfl
theorem fl_X6_279 : xlk fldX6 279 = some (5, 6, 0) := rfl
theorem fl_X6_288 : xlk fldX6 288 = some (4, 0, 2) := rfl
theorem fl_X6_298 : xlk fldX6 298 = some (4, 3, 0) := rfl
theorem fl_X6_301 : xlk fldX6 301 = some (4, 4, 0) := rfl
theorem fl_X6_304 : xlk fldX6 304 = some (0, 0, 0) := rfl
def fldX7 : List (Nat × Nat × Nat × Nat) := [(7, 7, 4, 0), (13, 7, 5, 0), (16, 7, 6, 3), (20, 7, 7, 3), (23, 7, 8, 3), (26, 7, 9, 3), (29, 7, 10, 3), (32, 7, 11, 3), (35, 7, 12, 3), (38, 7, 13, 3), (41, 7, 14, 3), (44, 7, 15, 3), (47, 7, 16, 3), (50, 7, 17, 3), (53, 7, 18, 3), (56, 7, 19, 3), (59, 7, 20, 3), (62, 7, 21, 3), (65, 7, 22, 3), (68, 7, 23, 3), (71, 7, 24, 3), (74, 7, 25, 3), (77, 7, 26, 3), (80, 7, 27, 3), (84, 7, 28, 3), (87, 7, 29, 3), (90, 7, 30, 3), (93, 7, 31, 3), (96, 7, 38, 3), (99, 7, 39, 3), (102, 7, 40, 3), (105, 7, 41, 3), (108, 7, 42, 3), (111, 7, 43, 3), (114, 7, 44, 3), (117, 7, 45, 3), (120, 7, 46, 3), (123, 7, 47, 3), (126, 7, 1, 0), (129, 7, 0, 0), (180, 7, 37, 0), (183, 7, 33, 0), (186, 7, 34, 0), (189, 7, 32, 0), (192, 7, 35, 0), (210, 7, 36, 0), (245, 7, 2, 0), (248, 7, 3, 0), (330, 7, 48, 0), (345, 7, 49, 1)]
set_option maxRecDepth 200000 in
theorem fldX7_ok : xFt RX7 (xlk fldX7) := xFt_of (xBig_ix [(4, 177), (4, 178), (4, 179), (4, 180), (4, 181), (4, 182), (4, 183), (4, 184), (4, 185), (4, 186), (4, 187), (4, 188), (4, 189), (4, 190), (4, 191), (4, 192), (4, 193), (4, 194), (4, 195), (4, 196), (4, 197), (4, 198), (4, 199), (4, 200), (4, 201), (4, 202), (4, 203), (4, 204), (4, 211), (4, 212), (4, 213), (4, 214), (4, 215), (4, 216), (4, 217), (4, 218), (4, 219), (4, 220), (4, 174), (4, 173), (4, 210), (4, 206), (4, 207), (4, 205), (4, 208), (4, 209), (4, 175), (4, 176), (4, 221), (4, 222)] (by decide +kernel)) (by decide +kernel)
theorem fl_X7_7 : xlk fldX7 7 = some (7, 4, 0) := rfl
theorem fl_X7_13 : xlk fldX7 13 = some (7, 5, 0) := rfl
theorem fl_X7_16 : xlk fldX7 16 = some (7, 6, 3) := rfl
theorem fl_X7_20 : xlk fldX7 20 = some (7, 7, 3) := rfl
theorem fl_X7_23 : xlk fldX7 23 = some (7, 8, 3) := rfl
theorem fl_X7_26 : xlk fldX7 26 = some (7, 9, 3) := rfl
theorem fl_X7_29 : xlk fldX7 29 = some (7, 10, 3) := rfl
theorem fl_X7_32 : xlk fldX7 32 = some (7, 11, 3) := rfl
theorem fl_X7_35 : xlk fldX7 35 = some (7, 12, 3) := rfl
theorem fl_X7_38 : xlk fldX7 38 = some (7, 13, 3) := rfl
theorem fl_X7_41 : xlk fldX7 41 = some (7, 14, 3) := rfl
theorem fl_X7_44 : xlk fldX7 44 = some (7, 15, 3) := rfl
theorem fl_X7_47 : xlk fldX7 47 = some (7, 16, 3) := rfl
theorem fl_X7_50 : xlk fldX7 50 = some (7, 17, 3) := rfl
theorem fl_X7_53 : xlk fldX7 53 = some (7, 18, 3) := rfl
theorem fl_X7_56 : xlk fldX7 56 = some (7, 19, 3) := rfl
theorem fl_X7_59 : xlk fldX7 59 = some (7, 20, 3) := rfl
theorem fl_X7_62 : xlk fldX7 62 = some (7, 21, 3) := rfl
theorem fl_X7_65 : xlk fldX7 65 = some (7, 22, 3) := rfl
theorem fl_X7_68 : xlk fldX7 68 = some (7, 23, 3) := rfl
theorem fl_X7_71 : xlk fldX7 71 = some (7, 24, 3) := rfl
theorem fl_X7_74 : xlk fldX7 74 = some (7, 25, 3) := rfl
theorem fl_X7_77 : xlk fldX7 77 = some (7, 26, 3) := rfl
theorem fl_X7_80 : xlk fldX7 80 = some (7, 27, 3) := rfl
theorem fl_X7_84 : xlk fldX7 84 = some (7, 28, 3) := rfl
theorem fl_X7_87 : xlk fldX7 87 = some (7, 29, 3) := rfl
theorem fl_X7_90 : xlk fldX7 90 = some (7, 30, 3) := rfl
theorem fl_X7_93 : xlk fldX7 93 = some (7, 31, 3) := rfl
theorem fl_X7_96 : xlk fldX7 96 = some (7, 38, 3) := rfl
theorem fl_X7_99 : xlk fldX7 99 = some (7, 39, 3) := rfl
theorem fl_X7_102 : xlk fldX7 102 = some (7, 40, 3) := rfl
theorem fl_X7_105 : xlk fldX7 105 = some (7, 41, 3) := rfl
theorem fl_X7_108 : xlk fldX7 108 = some (7, 42, 3) := rfl
theorem fl_X7_111 : xlk fldX7 111 = some (7, 43, 3) := rfl
theorem fl_X7_114 : xlk fldX7 114 = some (7, 44, 3) := rfl
theorem fl_X7_117 : xlk fldX7 117 = some (7, 45, 3) := rfl
theorem fl_X7_120 : xlk fldX7 120 = some (7, 46, 3) := rfl
theorem fl_X7_123 : xlk fldX7 123 = some (7, 47, 3) := rfl
theorem fl_X7_126 : xlk fldX7 126 = some (7, 1, 0) := rfl
theorem fl_X7_129 : xlk fldX7 129 = some (7, 0, 0) := rfl
theorem fl_X7_180 : xlk fldX7 180 = some (7, 37, 0) := rfl
theorem fl_X7_183 : xlk fldX7 183 = some (7, 33, 0) := rfl
theorem fl_X7_186 : xlk fldX7 186 = some (7, 34, 0) := rfl
theorem fl_X7_189 : xlk fldX7 189 = some (7, 32, 0) := rfl
theorem fl_X7_192 : xlk fldX7 192 = some (7, 35, 0) := rfl
theorem fl_X7_210 : xlk fldX7 210 = some (7, 36, 0) := rfl
theorem fl_X7_245 : xlk fldX7 245 = some (7, 2, 0) := rfl
theorem fl_X7_248 : xlk fldX7 248 = some (7, 3, 0) := rfl
theorem fl_X7_330 : xlk fldX7 330 = some (7, 48, 0) := rfl
theorem fl_X7_345 : xlk fldX7 345 = some (7, 49, 1) := rfl
def ksX7 : List (Nat × Value) := [(202, .long 102), (204, .long 108), (206, .long 114), (208, .long 115), (305, .long 49), (307, .long 4), (309, .long 8), (311, .long 2), (326, .int 1103515245)]
set_option maxRecDepth 200000 in
theorem ksX7_ok : xKs RX7 (xlk ksX7) := xKs_of (by decide +kernel)
theorem ks_X7_202 : xlk ksX7 202 = some (.long 102) := rfl
theorem ks_X7_204 : xlk ksX7 204 = some (.long 108) := rfl
theorem ks_X7_206 : xlk ksX7 206 = some (.long 114) := rfl
theorem ks_X7_208 : xlk ksX7 208 = some (.long 115) := rfl
theorem ks_X7_305 : xlk ksX7 305 = some (.long 49) := rfl
theorem ks_X7_307 : xlk ksX7 307 = some (.long 4) := rfl
theorem ks_X7_309 : xlk ksX7 309 = some (.long 8) := rfl
theorem ks_X7_311 : xlk ksX7 311 = some (.long 2) := rfl
theorem ks_X7_326 : xlk ksX7 326 = some (.int 1103515245) := rfl
set_option maxRecDepth 200000 in
theorem xgsX0_ok : xGs RX0 (xlk [(32, 900), (39, 901)]) := by
  have h := xBig_of (ws := [Jvm.Cond.fieldLink RX0 32 RX0 "ABOVE" "[I", Jvm.Cond.fieldLink RX0 39 RX0 "BODIES" "[I"]) (by decide +kernel)
  intro idx a hq
  have h1 := xlk_mem hq
  simp only [List.mem_cons, List.not_mem_nil, or_false, Prod.mk.injEq] at h1
  rcases h1 with ⟨rfl, rfl⟩ | ⟨rfl, rfl⟩
  · exact Or.inl ⟨rfl, h _ (by simp)⟩
  · exact Or.inr ⟨rfl, h _ (by simp)⟩
