/-! FROM A WALK OF THE ABSTRACT MACHINE TO A CONTRACT -/
def xCl (p : Program) (l : Launch) (e : Env) (R : Room) (s : State) (m : MethodId) (args : Array Value) (below : List Frame) (meth : Method) (c : Code) (cells slots : Nat) (Q : State → Prop) (w : xD) (ad : Nat → Nat) (ca : Nat → ClassId) (D : va_G) (A0 : Nat → Prop) (nL : Nat) (cc : ByteArray) (idx : Nat) (q : xCall) : Prop :=
  ∀ (pc : Nat) (L : xL) (as st : List Value) (σ : xS), decode cc pc = .ok (if q.1 = true then .invokestatic idx else .invokevirtual idx, 3) → as.length = q.2.1 → st.length ≤ 4 → q.2.2.1 as σ → xG p l e R s m args below meth c cells slots Q w ad ca D A0 nL (pc + 3) L ((q.2.2.2 as σ).1.toList ++ st) (q.2.2.2 as σ).2 → xG p l e R s m args below meth c cells slots Q w ad ca D A0 nL pc L (as.reverse ++ st) σ
def xRt (p : Program) (l : Launch) (e : Env) (R : Room) (s : State) (m : MethodId) (args : Array Value) (below : List Frame) (meth : Method) (c : Code) (cells slots : Nat) (Q : State → Prop) (w : xD) (ad : Nat → Nat) (ca : Nat → ClassId) (D : va_G) (A0 : Nat → Prop) (nL : Nat) (cc : ByteArray) (rb : Nat) (Rt : Option Value → xS → Prop) : Prop :=
  ∀ (r : Option Value) (σ : xS) (pc : Nat) (L : xL), Rt r σ → xRi cc rb pc r → xG p l e R s m args below meth c cells slots Q w ad ca D A0 nL pc L r.toList σ
def xEnv (p : Program) (l : Launch) (e : Env) (R : Room) (s : State) (m : MethodId) (args : Array Value) (below : List Frame) (meth : Method) (c : Code) (cells slots : Nat) (Q : State → Prop) (w : xD) (ad : Nat → Nat) (ca : Nat → ClassId) (D : va_G) (A0 : Nat → Prop) (nL : Nat) (own : String) (ret : Option FieldType) (d : Nat) (fld : Nat → Option (Nat × Nat × Nat)) (cal : Nat → Option xCall) (ks : Nat → Option Value) (gs : Nat → Option Nat) (ro : Nat → Option (Nat × (Nat → Int32))) (rb : Nat) (cc : ByteArray) (Rt : Option Value → xS → Prop) : Prop :=
  xCx p R s m args meth c cells slots cc own ret nL w ad ca D A0 d ∧ xFt own fld ∧ xKt own ks ad s args ∧ xGt own gs ad A0 s args ∧ xRo ro ad A0 s ∧ (∀ idx q, cal idx = some q → xCl p l e R s m args below meth c cells slots Q w ad ca D A0 nL cc idx q) ∧ xRt p l e R s m args below meth c cells slots Q w ad ca D A0 nL cc rb Rt
/-- from pc on, with these locals, this stack and this state, in any such place: it ends as Rt says -/
def xGo (w : xD) (nL : Nat) (fld : Nat → Option (Nat × Nat × Nat)) (cal : Nat → Option xCall) (ks : Nat → Option Value) (gs : Nat → Option Nat) (ro : Nat → Option (Nat × (Nat → Int32))) (rb : Nat) (cc : ByteArray) (Rt : Option Value → xS → Prop) (pc : Nat) (L : xL) (st : List Value) (σ : xS) : Prop :=
  ∀ (p : Program) (l : Launch) (e : Env) (R : Room) (s : State) (m : MethodId) (args : Array Value) (below : List Frame) (meth : Method) (c : Code) (cells slots : Nat) (Q : State → Prop) (ad : Nat → Nat) (ca : Nat → ClassId) (D : va_G) (A0 : Nat → Prop) (own : String) (ret : Option FieldType) (d : Nat), xEnv p l e R s m args below meth c cells slots Q w ad ca D A0 nL own ret d fld cal ks gs ro rb cc Rt → xG p l e R s m args below meth c cells slots Q w ad ca D A0 nL pc L st σ
section XGO
variable {w : xD} {nL : Nat} {fld : Nat → Option (Nat × Nat × Nat)} {cal : Nat → Option xCall} {ks : Nat → Option Value} {gs : Nat → Option Nat} {ro : Nat → Option (Nat × (Nat → Int32))} {rb : Nat} {cc : ByteArray} {Rt : Option Value → xS → Prop}
theorem xst_go {K : xK} (hK : ∀ pc L st σ, K pc L st σ → xGo w nL fld cal ks gs ro rb cc Rt pc L st σ) {i : Instr} {len pc : Nat} {L : xL} {st : List Value} {σ : xS} (hd : decode cc pc = .ok (i, len)) (h : xst w nL fld cal ks gs ro rb i len pc K Rt L st σ) : xGo w nL fld cal ks gs ro rb cc Rt pc L st σ := by
  intro p l e R s m args below meth c cells slots Q ad ca D A0 own ret d E
  obtain ⟨C, hF, hKs, hG, hRo, hCal, hRt⟩ := id E
  exact xst_ok C hF hKs hG hRo (fun idx b n pre fn hc pc L as st σ => hCal idx (b, n, pre, fn) hc pc L as st σ) (fun pc L st σ hk => hK pc L st σ hk p l e R s m args below meth c cells slots Q ad ca D A0 own ret d E) hRt hd h
theorem xwp_go {cut : Nat → Option (xL → List Value → xS → Prop)} (hcut : ∀ pc P, cut pc = some P → ∀ L st σ, P L st σ → xGo w nL fld cal ks gs ro rb cc Rt pc L st σ) : ∀ (n pc : Nat) (L : xL) (st : List Value) (σ : xS), xwp w nL fld cal ks gs ro rb cc cut Rt n pc L st σ → xGo w nL fld cal ks gs ro rb cc Rt pc L st σ
  | 0, pc, L, st, σ, h => by exact False.elim h
  | n + 1, pc, L, st, σ, h => by
    unfold xwp at h
    split at h
    · rename_i P hP
      exact hcut pc P hP L st σ h
    · split at h
      · rename_i i len hd
        exact xst_go (fun pc L st σ hk => xwp_go hcut n pc L st σ hk) hd h
      · exact False.elim h
theorem xws_go {cut : Nat → Option (xL → List Value → xS → Prop)} (hcut : ∀ pc P, cut pc = some P → ∀ L st σ, P L st σ → xGo w nL fld cal ks gs ro rb cc Rt pc L st σ) (n pc : Nat) (L : xL) (st : List Value) (σ : xS) (h : xws w nL fld cal ks gs ro rb cc cut Rt n pc L st σ) : xGo w nL fld cal ks gs ro rb cc Rt pc L st σ := by
  unfold xws at h
  split at h
  · rename_i i len hd
    exact xst_go (fun pc L st σ hk => xwp_go hcut n pc L st σ hk) hd h
  · exact False.elim h
def xno : Nat → Option (xL → List Value → xS → Prop) := fun _ => none
/-- no loop -/
theorem xgo0 (n : Nat) {pc : Nat} {L : xL} {st : List Value} {σ : xS} (h : xwp w nL fld cal ks gs ro rb cc xno Rt n pc L st σ) : xGo w nL fld cal ks gs ro rb cc Rt pc L st σ := xwp_go (fun pc P hP => by cases hP) n pc L st σ h
def xcut (hd : List Nat) (Inv : Nat → Nat → xL → List Value → xS → Prop) (μ : Nat) : Nat → Option (xL → List Value → xS → Prop) := fun pc => if pc ∈ hd then some (fun L st σ => ∃ μ', μ' < μ ∧ Inv pc μ' L st σ) else none
/-- loops: at each head an invariant with a measure that falls -/
theorem xloops (hd : List Nat) (Inv : Nat → Nat → xL → List Value → xS → Prop) (n : Nat) (hs : ∀ pc, pc ∈ hd → ∀ μ L st σ, Inv pc μ L st σ → xws w nL fld cal ks gs ro rb cc (xcut hd Inv μ) Rt n pc L st σ) : ∀ (μ pc : Nat), pc ∈ hd → ∀ L st σ, Inv pc μ L st σ → xGo w nL fld cal ks gs ro rb cc Rt pc L st σ := by
  intro μ
  induction μ using Nat.strongRecOn with
  | ind μ ih =>
    intro pc hpc L st σ h
    refine xws_go (cut := xcut hd Inv μ) ?_ n pc L st σ (hs pc hpc μ L st σ h)
    intro pc' P hP L' st' σ' hp
    unfold xcut at hP
    split at hP
    · rename_i hm
      cases hP
      obtain ⟨μ', h1, h2⟩ := hp
      exact ih μ' h1 pc' hm L' st' σ' h2
    · cases hP
/-- one loop, from its head on, in a wider walk -/
def xcut1 (h : Nat) (P : xL → List Value → xS → Prop) : Nat → Option (xL → List Value → xS → Prop) := fun pc => if pc = h then some P else none
theorem xloop (h : Nat) (Inv : Nat → xL → List Value → xS → Prop) (n : Nat) (hs : ∀ μ L st σ, Inv μ L st σ → xws w nL fld cal ks gs ro rb cc (xcut1 h (fun L st σ => ∃ μ', μ' < μ ∧ Inv μ' L st σ)) Rt n h L st σ) : ∀ (μ : Nat) L st σ, Inv μ L st σ → xGo w nL fld cal ks gs ro rb cc Rt h L st σ := by
  intro μ
  induction μ using Nat.strongRecOn with
  | ind μ ih =>
    intro L st σ hi
    refine xws_go (cut := xcut1 h (fun L st σ => ∃ μ', μ' < μ ∧ Inv μ' L st σ)) ?_ n h L st σ (hs μ L st σ hi)
    intro pc' P hP L' st' σ' hp
    unfold xcut1 at hP
    split at hP
    · rename_i hm
      cases hP
      obtain ⟨μ', h1, h2⟩ := hp
      rw [hm]
      exact ih μ' h1 L' st' σ' h2
    · cases hP
/-- a walk to a place that is known already -/
theorem xto (h : Nat) (P : xL → List Value → xS → Prop) (n : Nat) (hP : ∀ L st σ, P L st σ → xGo w nL fld cal ks gs ro rb cc Rt h L st σ) {pc : Nat} {L : xL} {st : List Value} {σ : xS} (hw : xwp w nL fld cal ks gs ro rb cc (xcut1 h P) Rt n pc L st σ) : xGo w nL fld cal ks gs ro rb cc Rt pc L st σ := by
  refine xwp_go (cut := xcut1 h P) ?_ n pc L st σ hw
  intro pc' P' hP' L' st' σ' hp
  unfold xcut1 at hP'
  split at hP'
  · rename_i hm
    cases hP'
    rw [hm]
    exact hP L' st' σ' hp
  · cases hP'
end XGO
/-! contracts -/
def xPre (w : xD) (D : va_G) (ad : Nat → Nat) (ca : Nat → ClassId) (σ : xS) (sz : Nat) (U : State) : Prop := U.heap.size = sz ∧ va_P D vwCl (xW w ad ca σ) U.heap ∧ va_K D vwCl (xtys ca) U ∧ va_D (fun _ => True) (xW w ad ca σ) ∧ xX ad (va_A (xW w ad ca σ) sz) U U.heap
def xQ (w : xD) (D : va_G) (ad : Nat → Nat) (ca : Nat → ClassId) (r : Option Value) (σ' : xS) (A : Nat → Prop) : Array Value → State → Outcome → State → Prop := fun _ st oc t => (oc = .returned (r.map (xc ad)) ∧ va_P D vwCl (xW w ad ca σ') t.heap) ∧ va_F A st t
abbrev xRm (d : Nat) : Room := { frames := d, cells := 0, slots := 0, locals := 40 * d }
def xMet (w : xD) (y : MethodName) (cc : ByteArray) (nL : Nat) (ret : Option FieldType) (d : Nat) (pre : List Value → xS → Prop) (fn : List Value → xS → Option Value × xS) : Prop :=
  ∀ (l : Launch) (D : va_G) (ad : Nat → Nat) (ca : Nat → ClassId) (av : List Value) (σ : xS) (sz : Nat), pre av σ → Met l y (.code y cc nL ret :: xBig) (xRm d) (va_Pc (av.map (xc ad)) (xPre w D ad ca σ sz)) (xQ w D ad ca (fn av σ).1 (fn av σ).2 (va_A (xW w ad ca σ) sz)) 0 0 (va_A (xW w ad ca σ) sz)
theorem xW_addr {w : xD} {ad : Nat → Nat} {ca : Nat → ClassId} {σ : xS} {k : Nat} {q : Nat × va_E} (h : (xW w ad ca σ)[k]? = some q) : ∃ K, w.1[k]? = some K ∧ q.1 = ad K := by
  rw [xW, List.getElem?_map] at h
  cases hk : w.1[k]? with
  | none => rw [hk] at h; cases h
  | some K => rw [hk] at h; cases h; exact ⟨K, rfl, rfl⟩
theorem xW_D {w : xD} {ad : Nat → Nat} {ca : Nat → ClassId} {A : Nat → Prop} {σ : xS} (h : va_D A (xW w ad ca σ)) (σ' : xS) : va_D A (xW w ad ca σ') := by
  have key : ∀ (k : Nat) (q : Nat × va_E), (xW w ad ca σ')[k]? = some q → ∃ q0, (xW w ad ca σ)[k]? = some q0 ∧ q0.1 = q.1 := by
    intro k q hq
    obtain ⟨K, h1, h2⟩ := xW_addr hq
    exact ⟨(ad K, xE w ad ca σ K), by rw [xW, List.getElem?_map, h1]; rfl, h2.symm⟩
  refine ⟨fun i j p q hi hj hpq => ?_, fun k q hk => ?_⟩
  · obtain ⟨p0, a1, a2⟩ := key i p hi
    obtain ⟨q0, b1, b2⟩ := key j q hj
    exact h.1 i j p0 q0 a1 b1 (a2.trans (hpq.trans b2.symm))
  · obtain ⟨q0, a1, a2⟩ := key k q hk
    rw [← a2]
    exact h.2 k q0 a1
theorem xPre_blind {w : xD} {D : va_G} {ad : Nat → Nat} {ca : Nat → ClassId} {σ : xS} {sz : Nat} {av : List Value} : FrameBlind (va_Pc av (xPre w D ad ca σ sz)) := by
  intro a U g mk h
  obtain ⟨h1, h2, h3, h4, h5, h6⟩ := h
  exact ⟨h1, h2, h3, h4.moved (u := U) (U := U.calling g mk a) (Vm.Alike.refl U.vm), h5, xX_same (u := U) rfl h6⟩
/-- the locals at a method's entry -/
def xen : List Value → xL
  | [] => []
  | .long x :: r => some (.long x) :: none :: xen r
  | .double x :: r => some (.double x) :: none :: xen r
  | v :: r => some v :: xen r
theorem xen_at : ∀ (av : List Value) (ad : Nat → Nat) (i j : Nat) (v : Value), (xen av)[j]? = some (some v) → (i + j, xc ad v) ∈ lv_args i (av.map (xc ad))
  | [], ad, i, j, v, h => by simp [xen] at h
  | u :: r, ad, i, j, v, h => by
    have one : u.category = 1 → xen (u :: r) = some u :: xen r := by
      intro hc
      cases u <;> first | rfl | (exact absurd hc (by simp [Value.category]))
    have two : u.category = 2 → xen (u :: r) = some u :: none :: xen r := by
      intro hc
      cases u <;> first | rfl | (exact absurd hc (by simp [Value.category]))
    rcases lv_cat u with hc | hc
    · rw [one hc] at h
      show (i + j, xc ad v) ∈ lv_args i (xc ad u :: r.map (xc ad))
      rw [lv_args, xc_cat, hc, if_neg (by decide)]
      cases j with
      | zero => simp at h; rw [h]; exact List.mem_cons_self
      | succ j =>
        have h2 := xen_at r ad (i + 1) j v (by simpa using h)
        rw [show i + (j + 1) = i + 1 + j by omega]
        exact List.mem_cons_of_mem _ h2
    · rw [two hc] at h
      show (i + j, xc ad v) ∈ lv_args i (xc ad u :: r.map (xc ad))
      rw [lv_args, xc_cat, hc, if_pos rfl]
      match j with
      | 0 => simp at h; rw [h]; exact List.mem_cons_self
      | 1 => simp at h
      | j + 2 =>
        have h2 := xen_at r ad (i + 2) j v (by simpa using h)
        rw [show i + (j + 2) = i + 2 + j by omega]
        exact List.mem_cons_of_mem _ h2
/-- the constants that a method's code names -/
def xKs (own : String) (ks : Nat → Option Value) : Prop := ∀ idx v, ks idx = some v → match v with
  | .int x => Jvm.Cond.constant own idx x ∈ xBig
  | .long x => Jvm.Cond.constantLong own idx x ∈ xBig
  | .ref a => own = RX2 ∧ ∃ i, i < 5 ∧ idx = 81 + 2 * i ∧ a = 910 + i
  | _ => False
def xGs (own : String) (gs : Nat → Option Nat) : Prop := ∀ idx a, gs idx = some a → (a = 900 ∧ Jvm.Cond.fieldLink own idx RX0 "ABOVE" "[I" ∈ xBig) ∨ (a = 901 ∧ Jvm.Cond.fieldLink own idx RX0 "BODIES" "[I" ∈ xBig)
def xro : Nat → Option (Nat × (Nat → Int32)) := fun a => if a = 900 then some (7, xAb) else if a = 901 then some (21, xBo) else none
def xRw (ret : Option FieldType) (rb : Nat) : Prop := match rb with
  | 0 => ret = some .int
  | 1 => ret = some .boolean
  | 2 => ret = some .long
  | 3 => ∃ n, ret = some (.object n)
  | 4 => ret = none
  | _ => False
