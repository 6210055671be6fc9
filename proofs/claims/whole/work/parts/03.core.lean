/-! THE ABSTRACT MACHINE: a side's world is a fixed set of cells, numbered by keys; its state are the whole numbers in them -/
abbrev xS : Type := (Nat → Nat → Int32) × (Nat → Nat → Int64)
def xI (σ : xS) (K f : Nat) (v : Int32) : xS := (fun a b => if a = K ∧ b = f then v else σ.1 a b, σ.2)
def xJ (σ : xS) (K f : Nat) (v : Int64) : xS := (σ.1, fun a b => if a = K ∧ b = f then v else σ.2 a b)
def xJs (σ : xS) (K : Nat) (g : Nat → Int64) : xS := (σ.1, fun a => if a = K then g else σ.2 a)
/-- keys; kind (0 ints, 1 longs, 2 to 4 rows of objects, 5 and on an object); length; which key stands where -/
abbrev xD : Type := List Nat × (Nat → Nat) × (Nat → Nat) × (Nat → Nat → Nat)
abbrev xL : Type := List (Option Value)
def xTT (ci : Nat) : u_T := match ci with
  | 0 => TX0 | 1 => TX1 | 2 => TX2 | 3 => TX3 | 4 => TX4 | 5 => TX5 | 6 => TX6 | _ => TX7
def xTy (ci : Nat) : Nat → FieldType := match ci with
  | 0 => tyX0 | 1 => tyX1 | 2 => tyX2 | 3 => tyX3 | 4 => tyX4 | 5 => tyX5 | 6 => tyX6 | _ => tyX7
def xNf (ci : Nat) : Nat := match ci with
  | 0 => 5 | 1 => 3 | 2 => 6 | 3 => 3 | 4 => 10 | 5 => 12 | 6 => 11 | _ => 50
def xNm (ci : Nat) : String := match ci with
  | 0 => RX0 | 1 => RX1 | 2 => RX2 | 3 => RX3 | 4 => RX4 | 5 => RX5 | 6 => RX6 | _ => RX7
theorem xcl {ci : Nat} (h : ci < 8) : vwCl[ci]? = some (xNm ci, xTT ci, xNf ci) := by
  match ci, h with
  | 0, _ => rfl
  | 1, _ => rfl
  | 2, _ => rfl
  | 3, _ => rfl
  | 4, _ => rfl
  | 5, _ => rfl
  | 6, _ => rfl
  | 7, _ => rfl
theorem xIn {ci : Nat} (h : ci < 8) : ∀ w ∈ u_ws (xNm ci) (xTT ci) (xNf ci), w ∈ xBig := by
  match ci, h with
  | 0, _ => exact inlX0
  | 1, _ => exact inlX1
  | 2, _ => exact inlX2
  | 3, _ => exact inlX3
  | 4, _ => exact inlX4
  | 5, _ => exact inlX5
  | 6, _ => exact inlX6
  | 7, _ => exact inlX7
theorem xTyOk {ci : Nat} (h : ci < 8) : ∀ k, k < xNf ci → parseFieldDescriptor (xTT ci k).2.2.1 = some (xTy ci k) := by
  match ci, h with
  | 0, _ => exact tyX0_ok
  | 1, _ => exact tyX1_ok
  | 2, _ => exact tyX2_ok
  | 3, _ => exact tyX3_ok
  | 4, _ => exact tyX4_ok
  | 5, _ => exact tyX5_ok
  | 6, _ => exact tyX6_ok
  | 7, _ => exact tyX7_ok
theorem xNmOk {ci : Nat} (h : ci < 8) : ∀ a, a < xNf ci → ∀ b, b < xNf ci → a ≠ b → (xTT ci a).2.1 ≠ (xTT ci b).2.1 := by
  match ci, h with
  | 0, _ => exact nmX0
  | 1, _ => exact nmX1
  | 2, _ => exact nmX2
  | 3, _ => exact nmX3
  | 4, _ => exact nmX4
  | 5, _ => exact nmX5
  | 6, _ => exact nmX6
  | 7, _ => exact nmX7
def xc (ad : Nat → Nat) : Value → Value
  | .ref K => .ref (ad K)
  | v => v
def xfv (w : xD) (ad : Nat → Nat) (σ : xS) (K : Nat) (ty : FieldType) (f : Nat) : Value := match ty with
  | .long => .long (σ.2 K f)
  | .object _ => .ref (ad (w.2.2.2 K f))
  | .array _ => .ref (ad (w.2.2.2 K f))
  | _ => .int (σ.1 K f)
def xE (w : xD) (ad : Nat → Nat) (ca : Nat → ClassId) (σ : xS) (K : Nat) : va_E := match w.2.1 K with
  | 0 => .inl (ca 0, w.2.2.1 K, .inl (σ.1 K))
  | 1 => .inl (ca 1, w.2.2.1 K, .inr (.inl (σ.2 K)))
  | 2 => .inl (ca 2, w.2.2.1 K, .inr (.inr (.inr (.inr (fun i => some (ad (w.2.2.2 K i)))))))
  | 3 => .inl (ca 3, w.2.2.1 K, .inr (.inr (.inr (.inr (fun i => some (ad (w.2.2.2 K i)))))))
  | 4 => .inl (ca 4, w.2.2.1 K, .inr (.inr (.inr (.inr (fun i => some (ad (w.2.2.2 K i)))))))
  | ci + 5 => .inr (ci, (List.range (xNf ci)).map (fun f => xfv w ad σ K (xTy ci f) f))
def xW (w : xD) (ad : Nat → Nat) (ca : Nat → ClassId) (σ : xS) : va_W := w.1.map (fun K => (ad K, xE w ad ca σ K))
abbrev xtys (ca : Nat → ClassId) : List (ClassId × FieldType) := [(ca 0, .int), (ca 1, .long), (ca 2, .object RX3), (ca 3, .object RX1), (ca 4, .object RX5)]
theorem xW_at {w : xD} {ad : Nat → Nat} {ca : Nat → ClassId} {σ : xS} {K : Nat} (h : K ∈ w.1) : ∃ q0 : Nat, w.1[q0]? = some K ∧ (xW w ad ca σ)[q0]? = some (ad K, xE w ad ca σ K) := by
  obtain ⟨q0, hq⟩ := List.getElem?_of_mem h
  exact ⟨q0, hq, by rw [xW, List.getElem?_map, hq]; rfl⟩
theorem xE_congr {w : xD} {ad : Nat → Nat} {ca : Nat → ClassId} {σ σ' : xS} {K : Nat} (h1 : σ.1 K = σ'.1 K) (h2 : σ.2 K = σ'.2 K) : xE w ad ca σ K = xE w ad ca σ' K := by
  unfold xE xfv
  rw [h1, h2]
theorem xW_set {w : xD} {ad : Nat → Nat} {ca : Nat → ClassId} {σ σ' : xS} {K q0 : Nat} {e : va_E} (hn : w.1.Nodup) (hq : w.1[q0]? = some K) (he : e = xE w ad ca σ' K) (h1 : ∀ a, a ≠ K → σ'.1 a = σ.1 a) (h2 : ∀ a, a ≠ K → σ'.2 a = σ.2 a) : (xW w ad ca σ).set q0 (ad K, e) = xW w ad ca σ' := by
  apply List.ext_getElem?
  intro k
  have hl : q0 < w.1.length := (List.getElem?_eq_some_iff.mp hq).1
  by_cases hk : k = q0
  · subst hk
    rw [List.getElem?_set_self (by simpa [xW] using hl)]
    rw [xW, List.getElem?_map, hq, he]
    rfl
  · rw [List.getElem?_set_ne (Ne.symm hk)]
    rw [xW, xW, List.getElem?_map, List.getElem?_map]
    cases hw : w.1[k]? with
    | none => rfl
    | some K' =>
      have hne : K' ≠ K := by
        intro e
        rw [e] at hw
        obtain ⟨g1, g2⟩ := List.getElem?_eq_some_iff.mp hw
        obtain ⟨g3, g4⟩ := List.getElem?_eq_some_iff.mp hq
        have hp := List.pairwise_iff_getElem.mp hn
        rcases Nat.lt_or_gt_of_ne hk with hlt | hlt
        · exact hp k q0 g1 g3 hlt (g2.trans g4.symm)
        · exact hp q0 k g3 g1 hlt (g4.trans g2.symm)
      show some (ad K', xE w ad ca σ K') = some (ad K', xE w ad ca σ' K')
      rw [xE_congr (h1 K' hne) (h2 K' hne)]
theorem xI_self (σ : xS) (K i : Nat) (v : Int32) : (xI σ K i v).1 K = upd (σ.1 K) i v := by
  funext j
  simp [xI, upd]
theorem xI_ne (σ : xS) {K a : Nat} (i : Nat) (v : Int32) (h : a ≠ K) : (xI σ K i v).1 a = σ.1 a := by
  funext j
  simp [xI, h]
theorem xJ_self (σ : xS) (K i : Nat) (v : Int64) : (xJ σ K i v).2 K = vp_updL (σ.2 K) i v := by
  funext j
  simp [xJ, vp_updL]
theorem xJ_ne (σ : xS) {K a : Nat} (i : Nat) (v : Int64) (h : a ≠ K) : (xJ σ K i v).2 a = σ.2 a := by
  funext j
  simp [xJ, h]
theorem xJs_self (σ : xS) (K : Nat) (g : Nat → Int64) : (xJs σ K g).2 K = g := by
  funext j
  simp [xJs]
theorem xJs_ne (σ : xS) {K a : Nat} (g : Nat → Int64) (h : a ≠ K) : (xJs σ K g).2 a = σ.2 a := by
  funext j
  simp [xJs, h]
/-- the static rows and texts -/
def xAb (j : Nat) : Int32 := [-1, 0, 0, 0, 3, 1, 3].getD j 0
def xBo (j : Nat) : Int32 := [10, 11, 12, 20, 0, 0, 0, 30, 0, 0, 40, 0, 51, 0, 50, 0, 0, 60, 70, 71, 0].getD j 0
def xlen : List Nat := [4, 4, 4, 6, 4]
def xbyt : List (List Int32) := [[103, 97, 105, 116], [119, 97, 108, 108], [111, 112, 101, 110], [119, 97, 108, 107, 101, 114], [98, 101, 97, 116]]
def xtx (i : Nat) : String := match i with
  | 0 => "gait" | 1 => "wall" | 2 => "open" | 3 => "walker" | _ => "beat"
def xX (ad : Nat → Nat) (A : Nat → Prop) (U : State) (H : Heap) : Prop :=
  (va_Z RX0 "ABOVE" "[I" (.ref (ad 900)) A U H ∧ va_T .int (ad 900) 7 (fun j => .int (xAb j)) A U H) ∧
  (va_Z RX0 "BODIES" "[I" (.ref (ad 901)) A U H ∧ va_T .int (ad 901) 21 (fun j => .int (xBo j)) A U H) ∧
  vk_S 5 xlen xbyt (fun i => ad (910 + i)) (fun i => ad (920 + i)) A U H ∧
  (∀ i, i < 5 → vk_R RX2 (81 + 2 * i) (xtx i) (ad (910 + i)) U) ∧
  va_Z RJ0 "COMPACT_STRINGS" "Z" (.int 1) A U H ∧
  (va_Z RJ3 "SIOOBE_FORMATTER" "Ljava/util/function/BiFunction;" .null A U H ∨ va_Z RJ3 "SIOOBE_FORMATTER" "Ljava/util/function/BiFunction;" (.ref (ad 930)) A U H) ∧
  (va_Nw (.fieldLinkNest RX4 179 RX5 "gaitAhead" "I" RX6) U ∧ va_Nw (.fieldLinkNest RX4 185 RX5 "wayAhead" "I" RX6) U)
theorem xX_kept {ad : Nat → Nat} {A : Nat → Prop} {U : State} {H H1 : Heap} (h : xX ad A U H) (hq : ∀ a : Nat, a < H.size → ¬ A a → H1[a]? = H[a]?) : xX ad A U H1 := by
  obtain ⟨⟨a1, a2⟩, ⟨b1, b2⟩, v, r, z1, z2, n1, n2⟩ := h
  exact ⟨⟨a1.kept hq, a2.kept hq⟩, ⟨b1.kept hq, b2.kept hq⟩, v.kept hq, r, z1.kept hq, z2.imp (fun z => z.kept hq) (fun z => z.kept hq), n1, n2⟩
theorem xX_narrow {ad : Nat → Nat} {A B : Nat → Prop} {U : State} {H : Heap} (h : xX ad A U H) (hAB : ∀ q, B q → A q) : xX ad B U H := by
  obtain ⟨⟨a1, a2⟩, ⟨b1, b2⟩, v, r, z1, z2, n1, n2⟩ := h
  exact ⟨⟨a1.narrow hAB, a2.narrow hAB⟩, ⟨b1.narrow hAB, b2.narrow hAB⟩, v.narrow hAB, r, z1.narrow hAB, z2.imp (fun z => z.narrow hAB) (fun z => z.narrow hAB), n1, n2⟩
theorem xX_warm {ad : Nat → Nat} {A : Nat → Prop} {u U : State} {H : Heap} (hW : u.WarmedH U.vm) (h : xX ad A u H) : xX ad A U H := by
  obtain ⟨⟨a1, a2⟩, ⟨b1, b2⟩, v, r, z1, z2, n1, n2⟩ := h
  exact ⟨⟨a1.moved hW.alike, a2.moved hW.alike⟩, ⟨b1.moved hW.alike, b2.moved hW.alike⟩, v.moved hW.alike, fun i hi => (r i hi).warm hW, z1.moved hW.alike, z2.imp (fun z => z.moved hW.alike) (fun z => z.moved hW.alike), va_Nw.warmF hW n1, va_Nw.warmF hW n2⟩
theorem xX_same {ad : Nat → Nat} {A : Nat → Prop} {u U : State} {H : Heap} (hv : U.vm = u.vm) (h : xX ad A u H) : xX ad A U H := by
  have hal : u.vm.Alike U.vm := by rw [hv]; exact Vm.Alike.refl u.vm
  obtain ⟨⟨a1, a2⟩, ⟨b1, b2⟩, v, r, z1, z2, n1, n2⟩ := h
  exact ⟨⟨a1.moved hal, a2.moved hal⟩, ⟨b1.moved hal, b2.moved hal⟩, v.moved hal, fun i hi => (r i hi).same hv, z1.moved hal, z2.imp (fun z => z.moved hal) (fun z => z.moved hal), va_Nw.same rfl hv.symm n1, va_Nw.same rfl hv.symm n2⟩
/-! locals, by their numbers -/
def xh (ad : Nat → Nat) (ls : Array Slot) (nL : Nat) (L : xL) : Prop := ls.size = nL ∧ lv_wf ls ∧ ∀ (j : Nat) (v : Value), L[j]? = some (some v) → ls[j]? = some (.val (xc ad v))
def xld : xL → Nat → (Value → Prop) → Prop
  | some v :: _, 0, P => P v
  | none :: _, 0, _ => False
  | _ :: L, k + 1, P => xld L k P
  | [], _, _ => False
theorem xld_at {L : xL} {k : Nat} {P : Value → Prop} (h : xld L k P) : ∃ v, L[k]? = some (some v) ∧ P v := by
  induction L generalizing k with
  | nil => exact absurd h (by simp [xld])
  | cons a L ih =>
    cases k with
    | zero =>
      cases a with
      | none => exact absurd h (by simp [xld])
      | some v => exact ⟨v, rfl, h⟩
    | succ k => exact ih (show xld L k P by simpa [xld] using h)
def xlg : Option Value → Option Value
  | some (.long _) => none
  | some (.double _) => none
  | a => a
def xs1 : xL → Nat → Value → xL
  | [], _, _ => []
  | _ :: L, 0, v => some v :: L
  | a :: L, 1, v => xlg a :: xs1 L 0 v
  | a :: L, k + 2, v => a :: xs1 L (k + 1) v
def xs2 : xL → Nat → Value → xL
  | [], _, _ => []
  | _ :: [], 0, v => some v :: []
  | _ :: _ :: L, 0, v => some v :: none :: L
  | a :: L, 1, v => xlg a :: xs2 L 0 v
  | a :: L, k + 2, v => a :: xs2 L (k + 1) v
theorem xlg_at {a : Option Value} {v : Value} (h : xlg a = some v) : a = some v ∧ v.category = 1 := by
  unfold xlg at h
  split at h
  · cases h
  · cases h
  · subst h
    rename_i h1 h2
    refine ⟨rfl, ?_⟩
    cases v <;> first | rfl | (exact absurd rfl (h1 _)) | (exact absurd rfl (h2 _))
theorem xs1_at {L : xL} {k : Nat} {v u : Value} {j : Nat} (h : (xs1 L k v)[j]? = some (some u)) : (j = k ∧ u = v) ∨ (j ≠ k ∧ L[j]? = some (some u) ∧ ¬ (j + 1 = k ∧ u.category = 2)) := by
  induction L generalizing k j with
  | nil => simp [xs1] at h
  | cons a L ih =>
    match k with
    | 0 =>
      cases j with
      | zero => simp [xs1] at h; exact Or.inl ⟨rfl, h.symm⟩
      | succ j => simp [xs1] at h; exact Or.inr ⟨by omega, by simpa using h, by omega⟩
    | 1 =>
      cases j with
      | zero =>
        simp [xs1] at h
        obtain ⟨h1, h2⟩ := xlg_at h
        exact Or.inr ⟨by omega, by simp [h1], by omega⟩
      | succ j =>
        have h' : (xs1 L 0 v)[j]? = some (some u) := by simpa [xs1] using h
        rcases ih h' with ⟨h1, h2⟩ | ⟨h1, h2, h3⟩
        · exact Or.inl ⟨by omega, h2⟩
        · exact Or.inr ⟨by omega, by simpa using h2, by omega⟩
    | k + 2 =>
      cases j with
      | zero => simp [xs1] at h; exact Or.inr ⟨by omega, by simp [h], by omega⟩
      | succ j =>
        have h' : (xs1 L (k + 1) v)[j]? = some (some u) := by simpa [xs1] using h
        rcases ih h' with ⟨h1, h2⟩ | ⟨h1, h2, h3⟩
        · exact Or.inl ⟨by omega, h2⟩
        · exact Or.inr ⟨by omega, by simpa using h2, fun q => h3 ⟨by omega, q.2⟩⟩
theorem xs2_at {L : xL} {k : Nat} {v u : Value} {j : Nat} (h : (xs2 L k v)[j]? = some (some u)) : (j = k ∧ u = v) ∨ (j ≠ k ∧ j ≠ k + 1 ∧ L[j]? = some (some u) ∧ ¬ (j + 1 = k ∧ u.category = 2)) := by
  induction L generalizing k j with
  | nil => simp [xs2] at h
  | cons a L ih =>
    match k with
    | 0 =>
      cases L with
      | nil =>
        cases j with
        | zero => simp [xs2] at h; exact Or.inl ⟨rfl, h.symm⟩
        | succ j => simp [xs2] at h
      | cons b L =>
        match j with
        | 0 => simp [xs2] at h; exact Or.inl ⟨rfl, h.symm⟩
        | 1 => simp [xs2] at h
        | j + 2 => simp [xs2] at h; exact Or.inr ⟨by omega, by omega, by simpa using h, by omega⟩
    | 1 =>
      cases j with
      | zero =>
        simp [xs2] at h
        obtain ⟨h1, h2⟩ := xlg_at h
        exact Or.inr ⟨by omega, by omega, by simp [h1], by omega⟩
      | succ j =>
        have h' : (xs2 L 0 v)[j]? = some (some u) := by simpa [xs2] using h
        rcases ih h' with ⟨h1, h2⟩ | ⟨h1, h2, h3, h4⟩
        · exact Or.inl ⟨by omega, h2⟩
        · exact Or.inr ⟨by omega, by omega, by simpa using h3, by omega⟩
    | k + 2 =>
      cases j with
      | zero => simp [xs2] at h; exact Or.inr ⟨by omega, by omega, by simp [h], by omega⟩
      | succ j =>
        have h' : (xs2 L (k + 1) v)[j]? = some (some u) := by simpa [xs2] using h
        rcases ih h' with ⟨h1, h2⟩ | ⟨h1, h2, h3, h4⟩
        · exact Or.inl ⟨by omega, h2⟩
        · exact Or.inr ⟨by omega, by omega, by simpa using h3, fun q => h4 ⟨by omega, q.2⟩⟩
theorem xc_cat (ad : Nat → Nat) (v : Value) : (xc ad v).category = v.category := by cases v <;> rfl
/-- the listed pairs of some locals -/
def xpr (ad : Nat → Nat) (L : xL) : List (Nat × Value) := (List.range L.length).filterMap (fun j => match L[j]? with | some (some v) => some (j, xc ad v) | _ => none)
theorem xpr_mem {ad : Nat → Nat} {L : xL} {q : Nat × Value} : q ∈ xpr ad L ↔ ∃ v, L[q.1]? = some (some v) ∧ q.2 = xc ad v := by
  unfold xpr
  rw [List.mem_filterMap]
  constructor
  · rintro ⟨j, hj, h⟩
    split at h
    · rename_i v hv
      cases h
      exact ⟨v, hv, rfl⟩
    · cases h
  · rintro ⟨v, hv, hq⟩
    refine ⟨q.1, List.mem_range.mpr (List.getElem?_eq_some_iff.mp hv).1, ?_⟩
    rw [hv]
    simp [← hq]
theorem xh_has {ad : Nat → Nat} {ls : Array Slot} {nL : Nat} {L : xL} (h : xh ad ls nL L) : lv_has ls nL (xpr ad L) := by
  refine ⟨h.1, h.2.1, fun q hq => ?_⟩
  obtain ⟨v, h1, h2⟩ := xpr_mem.mp hq
  rw [h2]
  exact h.2.2 _ _ h1
theorem xh_s1 {ad : Nat → Nat} {ls : Array Slot} {nL i : Nat} {L : xL} {v : Value} (h : lv_has ls nL ((i, xc ad v) :: (xpr ad L).filter (fun q => !(q.1 == i) && !(q.1 + 1 == i && q.2.category == 2)))) : xh ad ls nL (xs1 L i v) := by
  refine ⟨h.1, h.2.1, fun j u hj => ?_⟩
  rcases xs1_at hj with ⟨rfl, rfl⟩ | ⟨h1, h2, h3⟩
  · exact h.2.2 _ List.mem_cons_self
  · refine h.2.2 (j, xc ad u) (List.mem_cons_of_mem _ (List.mem_filter.mpr ⟨xpr_mem.mpr ⟨u, h2, rfl⟩, ?_⟩))
    simp only [xc_cat, Bool.and_eq_true, Bool.not_eq_true', beq_eq_false_iff_ne, Bool.and_eq_false_iff]
    refine ⟨h1, ?_⟩
    by_cases g : j + 1 = i
    · exact Or.inr (fun g2 => h3 ⟨g, g2⟩)
    · exact Or.inl g
theorem xh_s2 {ad : Nat → Nat} {ls : Array Slot} {nL i : Nat} {L : xL} {v : Value} (h : lv_has ls nL ((i, xc ad v) :: (xpr ad L).filter (fun q => !(q.1 == i) && (!(q.1 == i + 1) && !(q.1 + 1 == i && q.2.category == 2))))) : xh ad ls nL (xs2 L i v) := by
  refine ⟨h.1, h.2.1, fun j u hj => ?_⟩
  rcases xs2_at hj with ⟨rfl, rfl⟩ | ⟨h1, h2, h3, h4⟩
  · exact h.2.2 _ List.mem_cons_self
  · refine h.2.2 (j, xc ad u) (List.mem_cons_of_mem _ (List.mem_filter.mpr ⟨xpr_mem.mpr ⟨u, h3, rfl⟩, ?_⟩))
    simp only [xc_cat, Bool.and_eq_true, Bool.not_eq_true', beq_eq_false_iff_ne, Bool.and_eq_false_iff]
    refine ⟨h1, h2, ?_⟩
    by_cases g : j + 1 = i
    · exact Or.inr (fun g2 => h4 ⟨g, g2⟩)
    · exact Or.inl g
