/-! HOW THE WORLDS ARE MADE: constructors -/
/-- what a constructor needs of the tables beside the words: its nest mates' links, rows of objects -/
def cF (U : State) : Prop := ((va_Nw (.methodLinkNest RX6 37 yX0_init RX6) U ∧ va_Nw (.methodLinkNest RX6 61 yX3_init RX6) U ∧ va_Nw (.methodLinkNest RX6 30 yX2_init RX6) U) ∧ va_Nw (.methodLinkNest RX4 43 yX1_init RX6) U ∧ va_Nw (.methodLinkNest RX4 48 yX5_init RX6) U) ∧ va_AO RX3 U ∧ va_AO RX1 U ∧ va_AO RX5 U
theorem cF_warm {s U : State} (hW : s.WarmedH U.vm) (h : cF s) : cF U := by
  obtain ⟨⟨⟨n1, n2, n5⟩, n3, n4⟩, a1, a2, a3⟩ := h
  exact ⟨⟨⟨va_Nw.warmM hW n1, va_Nw.warmM hW n2, va_Nw.warmM hW n5⟩, va_Nw.warmM hW n3, va_Nw.warmM hW n4⟩, a1.moved hW.alike, a2.moved hW.alike, a3.moved hW.alike⟩
theorem cF_same {s U : State} (hv : s.vm = U.vm) (h : cF s) : cF U := by
  have hal : s.vm.Alike U.vm := by rw [hv]; exact Vm.Alike.refl U.vm
  obtain ⟨⟨⟨n1, n2, n5⟩, n3, n4⟩, a1, a2, a3⟩ := h
  exact ⟨⟨⟨va_Nw.same rfl hv n1, va_Nw.same rfl hv n2, va_Nw.same rfl hv n5⟩, va_Nw.same rfl hv n3, va_Nw.same rfl hv n4⟩, a1.moved hal, a2.moved hal, a3.moved hal⟩
/-- an object's fields as it is made -/
def xdv : FieldType → Value
  | .long => .long 0
  | .object _ => .null
  | .array _ => .null
  | _ => .int 0
def xdf (ci : Nat) : List Value := (List.range (xNf ci)).map (fun f => xdv (xTy ci f))
theorem xdv_ok : ∀ ci, ci < 8 → ∀ f, f < xNf ci → defaultValue (xTy ci f) = xdv (xTy ci f) := by
  intro ci hci f hf
  have : xTy ci f = .int ∨ xTy ci f = .boolean ∨ xTy ci f = .long ∨ (∃ n, xTy ci f = .object n) ∨ ∃ n, xTy ci f = .array n := by
    have key : ∀ ci, ci < 8 → ∀ f, f < xNf ci → (match xTy ci f with | .int => true | .boolean => true | .long => true | .object _ => true | .array _ => true | _ => false) = true := by decide +kernel
    have := key ci hci f hf
    revert this
    cases xTy ci f <;> simp
  rcases this with e | e | e | ⟨n, e⟩ | ⟨n, e⟩ <;> rw [e] <;> rfl
theorem xdf_ok {ci : Nat} (hci : ci < 8) : ∀ j, j < xNf ci → defaultValue (xTy ci j) = vp_V (xdf ci) j := by
  intro j hj
  rw [xdv_ok ci hci j hj]
  unfold xdf vp_V
  simp [hj]
def cCx (p : Program) (R : Room) (s : State) (m : MethodId) (args : Array Value) (meth : Method) (c : Code) (cc : ByteArray) (own : String) (nL : Nat) (D : va_G) (ca : Nat → ClassId) (A : Nat → Prop) : Prop :=
  (p.tables.exec = Jvm.exec ∧ c.code = cc ∧ c.maxLocals = nL ∧ s.vm.findClass own = some m.cls ∧ ∀ w ∈ xBig, w.before args s = true) ∧ va_K D vwCl (xtys ca) s ∧ (∀ q : Nat, s.heap.size ≤ q → A q) ∧ cF s
def cH (s : State) (D : va_G) (A : Nat → Prop) (ws : va_W) (H : Heap) (locs : List Loc) : Prop := va_P D vwCl ws H ∧ va_D A ws ∧ va_S A s.heap H locs
abbrev iRm (d mc ms : Nat) : Room := { frames := d, cells := mc, slots := ms, locals := 40 * d }
def iQ (D : va_G) (post : va_W → Prop) (A : Nat → Prop) : Array Value → State → Outcome → State → Prop := fun _ st oc t => (oc = .returned none ∧ ∃ w1, post w1 ∧ va_P D vwCl w1 t.heap ∧ va_D A w1) ∧ va_F A st t
def iPre (D : va_G) (ca : Nat → ClassId) (z ci sz : Nat) (U : State) : Prop := U.heap.size = sz ∧ va_P D vwCl [(z, .inr (ci, xdf ci))] U.heap ∧ va_K D vwCl (xtys ca) U ∧ va_D (fun _ => True) [(z, .inr (ci, xdf ci))] ∧ cF U
/-- a constructor's contract: the cells that it leaves -/
def iMet (y : MethodName) (cc : ByteArray) (nL ci d mc ms : Nat) (As : List Value) (post : (Nat → ClassId) → Nat → va_W → Prop) : Prop :=
  ∀ (l : Launch) (D : va_G) (ca : Nat → ClassId) (z sz : Nat), Met l y (.code y cc nL none :: xBig) (iRm d mc ms) (va_Pc (.ref z :: As) (iPre D ca z ci sz)) (iQ D (post ca z) (va_A [(z, .inr (ci, xdf ci))] sz)) mc ms (va_A [(z, .inr (ci, xdf ci))] sz)
theorem iPre_blind {D : va_G} {ca : Nat → ClassId} {z ci sz : Nat} {av : List Value} : FrameBlind (va_Pc av (iPre D ca z ci sz)) := by
  intro a U g mk h
  obtain ⟨h1, h2, h3, h4, h5, h6⟩ := h
  exact ⟨h1, h2, h3, h4.moved (u := U) (U := U.calling g mk a) (Vm.Alike.refl U.vm), h5, cF_same (s := U) rfl h6⟩
set_option maxHeartbeats 1000000 in
theorem iMet_of {y : MethodName} {cc : ByteArray} {nL ci d mc ms : Nat} {As : List Value} {post : (Nat → ClassId) → Nat → va_W → Prop} {lv : Nat → List (Nat × Value)} (hy : plainName y.cls = true) (hlv : ∀ z, lv_args 0 (.ref z :: As) = lv z) (hlen : (lg_sl (.ref 0 :: As)).length ≤ nL) (hlen2 : ∀ z, (lg_sl (.ref z :: As)).length = (lg_sl (.ref 0 :: As)).length)
    (hbody : ∀ (p : Program) (l : Launch) (e : Env) (s : State) (m : MethodId) (args : Array Value) (below : List Frame) (meth : Method) (c : Code) (D : va_G) (ca : Nat → ClassId) (z : Nat) (A : Nat → Prop) (ls : Array Slot), cCx p (headSpec (.code y cc nL none :: xBig) (iRm d mc ms)).room s m args meth c cc y.cls nL D ca A → meth.sig.returnType = none → meth.locks = false → meth.name = y.name → cH s D A [(z, .inr (ci, xdf ci))] s.heap [] → lv_has ls nL (lv z) →
      W p l e (headSpec (.code y cc nL none :: xBig) (iRm d mc ms)).room s m args below meth c s.heap [] 0 0 (MQ below (iQ D (post ca z) A) args s mc ms A) (F0 m 0 ls [])) : iMet y cc nL ci d mc ms As post := by
  intro l D ca z sz
  refine Met.ofW (cc := cc) (maxL := nL) (ret := none) hy rfl ?_
  intro p e s m args below meth c s₁ B hml hv
  obtain ⟨rfl, hsz, hP, hK, hD0, hF⟩ := hv
  have hts := atoms_spec (ws := .code y cc nL none :: xBig) B.pre
  subst hsz
  have hD := hD0.self (sz := s.heap.size)
  have hl := lv_entry (.ref z :: As) (n := nL) (by rw [hlen2]; exact hlen)
  rw [lg_entry_eq]
  generalize (lg_sl (.ref z :: As) ++ List.replicate (nL - (lg_sl (.ref z :: As)).length) Slot.unset).toArray = ls at hl ⊢
  rw [hlv] at hl
  exact hbody p l e s m _ below meth c D ca z _ ls ⟨⟨B.exec, B.bytes, hml, findClass_of_methodNamed B.named, fun x h => hts x (List.mem_cons_of_mem _ h)⟩, hK, fun q h => Or.inr h, hF⟩ B.returns B.notSynchronized (name_of_methodNamed B.named B.method).1 ⟨hP, hD, va_S.rf⟩ hl
theorem objI_in : (∀ x ∈ [Jvm.Cond.instanceMethod objectInit, .code objectInit ⟨#[0xb1]⟩ 1 none], x ∈ xBig) := xBig_of (by decide +kernel)
section CTOR
variable {p : Program} {l : Launch} {e : Env} {R : Room} {s : State} {m : MethodId} {args : Array Value} {below : List Frame} {meth : Method} {c : Code} {cells slots : Nat} {Q : State → Prop} {cc : ByteArray} {own : String} {nL : Nat} {D : va_G} {ca : Nat → ClassId} {A : Nat → Prop} {H : Heap} {locs : List Loc} {ls : Array Slot} {pc : Nat} {rest : List Value} {ws : va_W}
/-- a field of the object that is being made -/
theorem cput {ci f z idx : Nat} {v : Value} {ty : FieldType} {fs : List Value} {tl : va_W} (C : cCx p R s m args meth c cc own nL D ca A) (hin : meth.name = "<init>") (hH : cH s D A ((z, .inr (ci, fs)) :: tl) H locs) (hci : ci < 8) (hf : f < xNf ci) (hty : xTy ci f = ty) (hn : narrow ty v = v) (hfit : fits ty v = true) (hl : f < fs.length) (hw : Jvm.Cond.fieldLink own idx (xTT ci f).1 (xTT ci f).2.1 (xTT ci f).2.2.1 ∈ xBig) (hdecl : (xTT ci f).1 = own) (hdg : decode cc pc = .ok (.putfield idx, 3))
    (kk : ∀ (H1 : Heap) (locs1 : List Loc), cH s D A ((z, .inr (ci, fs.set f v)) :: tl) H1 locs1 → W p l e R s m args below meth c H1 locs1 cells slots Q (F0 m (pc + 3) ls rest)) : W p l e R s m args below meth c H locs cells slots Q (F0 m pc ls (v :: .ref z :: rest)) := by
  obtain ⟨⟨hx, hb, hml, hown, hts⟩, hK, hA, hF⟩ := C
  obtain ⟨hP, hD, hS⟩ := hH
  by_cases hfin : (xTT ci f).2.2.2 = true
  · exact va_putF (own := own) (ref := (xTT ci f).1) (C := xNm ci) (T := xTT ci) (N := xNf ci) (Ts := xBig) (ty := ty) hx hb hts (xIn hci) (xTy ci) (xTyOk hci) (xNmOk hci) hown hK hP hD hS 0 rfl (xcl hci) f hf (hts _ hw) (fun _ z => z) hfin hin hdecl (by rw [xTyOk hci f hf, hty]) hn hfit hl hdg (fun H1 locs1 h1 h2 h3 => kk H1 locs1 ⟨h1, h2, h3⟩)
  · exact va_put (own := own) (ref := (xTT ci f).1) (C := xNm ci) (T := xTT ci) (N := xNf ci) (Ts := xBig) (ty := ty) hx hb hts (xIn hci) (xTy ci) (xTyOk hci) (xNmOk hci) hown hK hP hD hS 0 rfl (xcl hci) f hf (hts _ hw) (fun _ z => z) (by simpa using hfin) (by rw [xTyOk hci f hf, hty]) hn hfit hl hdg (fun H1 locs1 h1 h2 h3 => kk H1 locs1 ⟨h1, h2, h3⟩)
theorem cget {ci f z idx : Nat} {v : Value} {fs : List Value} {tl : va_W} (C : cCx p R s m args meth c cc own nL D ca A) (hH : cH s D A ((z, .inr (ci, fs)) :: tl) H locs) (hci : ci < 8) (hf : f < xNf ci) (hv : fs[f]? = some v) (hw : Jvm.Cond.fieldLink own idx (xTT ci f).1 (xTT ci f).2.1 (xTT ci f).2.2.1 ∈ xBig) (hdg : decode cc pc = .ok (.getfield idx, 3))
    (kk : W p l e R s m args below meth c H locs cells slots Q (F0 m (pc + 3) ls (v :: rest))) : W p l e R s m args below meth c H locs cells slots Q (F0 m pc ls (.ref z :: rest)) := by
  obtain ⟨⟨hx, hb, hml, hown, hts⟩, hK, hA, hF⟩ := C
  obtain ⟨hP, hD, hS⟩ := hH
  exact va_get (own := own) (ref := (xTT ci f).1) (C := xNm ci) (T := xTT ci) (N := xNf ci) (Ts := xBig) hx hb hts (xIn hci) hown hK hP 0 rfl (xcl hci) f hf (hts _ hw) (fun _ z => z) (v := v) hv hdg kk
/-- a new object -/
theorem cnew {ci idx : Nat} (C : cCx p R s m args meth c cc own nL D ca A) (hH : cH s D A ws H locs) (hci : ci < 8) (hcl : Jvm.Cond.classLink own idx (xNm ci) ∈ xBig) (hins : Jvm.Cond.instantiable (xNm ci) (xNf ci) ∈ xBig) (hini : Jvm.Cond.initialized (xNm ci) ∈ xBig) (hc : cells + 1 ≤ R.cells) (hs : slots + xNf ci ≤ R.slots) (hdg : decode cc pc = .ok (.new idx, 3))
    (kk : ∀ (q : Nat) (H1 : Heap), cH s D A (ws ++ [(q, .inr (ci, xdf ci))]) H1 locs → W p l e R s m args below meth c H1 locs (cells + 1) (slots + xNf ci) Q (F0 m (pc + 3) ls (.ref q :: rest))) : W p l e R s m args below meth c H locs cells slots Q (F0 m pc ls rest) := by
  obtain ⟨⟨hx, hb, hml, hown, hts⟩, hK, hA, hF⟩ := C
  obtain ⟨hP, hD, hS⟩ := hH
  exact va_new (ci := ci) (fs := xdf ci) (C := xNm ci) (T := xTT ci) (N := xNf ci) (Ts := xBig) hx hb hts (xIn hci) (xTy ci) (xTyOk hci) hown (hts _ hcl) (hts _ hins) (hts _ hini) hK hP hD hS hA (xcl hci) (xdf_ok hci) hc hs hdg (fun q H1 h1 h2 h3 => kk q H1 ⟨h1, h2, h3⟩)
/-- a new row of ints, of longs, of objects -/
theorem cnewI {n : Int32} {N : Nat} (C : cCx p R s m args meth c cc own nL D ca A) (hH : cH s D A ws H locs) (har : Jvm.Cond.arrayClass .int ∈ xBig) (hn : ¬ n < 0) (hN : n.toNatClampNeg = N) (hN2 : N ≤ 10000) (hc : cells + 1 ≤ R.cells) (hs : slots + N ≤ R.slots) (hdg : decode cc pc = .ok (.newarray .int, 2))
    (kk : ∀ (q : Nat) (H1 : Heap), cH s D A (ws ++ [(q, .inl (ca 0, N, .inl (fun _ => 0)))]) H1 locs → W p l e R s m args below meth c H1 locs (cells + 1) (slots + N) Q (F0 m (pc + 2) ls (.ref q :: rest))) : W p l e R s m args below meth c H locs cells slots Q (F0 m pc ls (.int n :: rest)) := by
  obtain ⟨⟨hx, hb, hml, hown, hts⟩, hK, hA, hF⟩ := C
  obtain ⟨hP, hD, hS⟩ := hH
  refine va_newa (atype := .int) (ty := .int) (a0 := (N, .inl (fun _ => 0))) hx hb (hts _ har) rfl hK hP hD hS hA (fun _ => rfl) hn hN (by show N * 4 ≤ _; omega) hc hs hdg (fun q cA H1 hK1 h1 h2 h3 => ?_)
  have e1 := (hK.2 0 _ rfl).2
  have e2 := (hK1.2 5 _ rfl).2
  have e : cA = ca 0 := Option.some.inj (e2.symm.trans e1)
  subst e
  exact kk q H1 ⟨h1, h2, h3⟩
theorem cnewJ {n : Int32} {N : Nat} (C : cCx p R s m args meth c cc own nL D ca A) (hH : cH s D A ws H locs) (har : Jvm.Cond.arrayClass .long ∈ xBig) (hn : ¬ n < 0) (hN : n.toNatClampNeg = N) (hN2 : N ≤ 10000) (hc : cells + 1 ≤ R.cells) (hs : slots + N ≤ R.slots) (hdg : decode cc pc = .ok (.newarray .long, 2))
    (kk : ∀ (q : Nat) (H1 : Heap), cH s D A (ws ++ [(q, .inl (ca 1, N, .inr (.inl (fun _ => 0))))]) H1 locs → W p l e R s m args below meth c H1 locs (cells + 1) (slots + N) Q (F0 m (pc + 2) ls (.ref q :: rest))) : W p l e R s m args below meth c H locs cells slots Q (F0 m pc ls (.int n :: rest)) := by
  obtain ⟨⟨hx, hb, hml, hown, hts⟩, hK, hA, hF⟩ := C
  obtain ⟨hP, hD, hS⟩ := hH
  refine va_newa (atype := .long) (ty := .long) (a0 := (N, .inr (.inl (fun _ => 0)))) hx hb (hts _ har) rfl hK hP hD hS hA (fun _ => rfl) hn hN (by show N * 8 ≤ _; omega) hc hs hdg (fun q cA H1 hK1 h1 h2 h3 => ?_)
  have e1 := (hK.2 1 _ rfl).2
  have e2 := (hK1.2 5 _ rfl).2
  have e : cA = ca 1 := Option.some.inj (e2.symm.trans e1)
  subst e
  exact kk q H1 ⟨h1, h2, h3⟩
theorem cnewQ {n : Int32} {N idx k : Nat} {Cn : String} (C : cCx p R s m args meth c cc own nL D ca A) (hH : cH s D A ws H locs) (hk : (xtys ca)[k]? = some (ca k, .object Cn)) (hcl : Jvm.Cond.classLink own idx Cn ∈ xBig) (hao : va_AO Cn s) (hn : ¬ n < 0) (hN : n.toNatClampNeg = N) (hN2 : N ≤ 10000) (hc : cells + 1 ≤ R.cells) (hs : slots + N ≤ R.slots) (hdg : decode cc pc = .ok (.anewarray idx, 3))
    (kk : ∀ (q : Nat) (H1 : Heap), cH s D A (ws ++ [(q, .inl (ca k, N, .inr (.inr (.inr (.inr (fun _ => none))))))]) H1 locs → W p l e R s m args below meth c H1 locs (cells + 1) (slots + N) Q (F0 m (pc + 3) ls (.ref q :: rest))) : W p l e R s m args below meth c H locs cells slots Q (F0 m pc ls (.int n :: rest)) := by
  obtain ⟨⟨hx, hb, hml, hown, hts⟩, hK, hA, hF⟩ := C
  obtain ⟨hP, hD, hS⟩ := hH
  refine va_newq (C := Cn) hx hb hown (hts _ hcl) hao hK hP hD hS hA hn hN (by omega) hc hs hdg (fun q cA H1 hK1 h1 h2 h3 => ?_)
  obtain ⟨_, _, _, _, _, e1⟩ := (hK.2 k _ hk).2
  obtain ⟨_, _, _, _, _, e2⟩ := (hK1.2 5 _ rfl).2
  have e : cA = ca k := Option.some.inj (e2.symm.trans e1)
  subst e
  exact kk q H1 ⟨h1, h2, h3⟩
/-- Object's own constructor -/
theorem cobj {a idx : Nat} (C : cCx p R s m args meth c cc own nL D ca A) (hw : Jvm.Cond.methodLink own idx objectInit ∈ xBig) (hsz : ls.size = nL) (hfr : 1 ≤ R.frames) (hlo : 100 ≤ R.locals) (hrest : rest.length ≤ 2) (hdg : decode cc pc = .ok (.invokespecial idx, 3))
    (kk : W p l e R s m args below meth c H locs cells slots Q (F0 m (pc + 3) ls rest)) : W p l e R s m args below meth c H locs cells slots Q (F0 m pc ls (.ref a :: rest)) := by
  obtain ⟨⟨hx, hb, hml, hown, hts⟩, hK, hA, hF⟩ := C
  have hs : (rest.map fun v => v.category).sum ≤ 4 := by
    match rest, hrest with
    | [], _ => simp
    | [a], _ => rcases lv_cat a with h | h <;> simp [h]
    | [a, b], _ => rcases lv_cat a with h | h <;> rcases lv_cat b with h' | h' <;> simp [h, h']
  exact W.objInit hx hb hown (hts _ hw) (hts _ (objI_in _ List.mem_cons_self)) (hts _ (objI_in _ (List.mem_cons_of_mem _ List.mem_cons_self))) rfl (by rw [hml]; exact hsz) rfl hdg hfr (by show 2 * 0 + _ + 12 ≤ _; omega) kk
/-- behind a constructor's call: what it left stands behind the rest -/
theorem ccore {o : va_W} {z ci mc ms : Nat} {post : va_W → Prop} {a : Array Value} {st0 : List Value} (hA : ∀ q : Nat, s.heap.size ≤ q → A q) (hH : cH s D A (o ++ [(z, .inr (ci, xdf ci))]) H locs) (hr : va_Run p l e R s m args below meth c H locs cells slots mc ms (F0 m pc ls st0) rest (iQ D post (va_A [(z, .inr (ci, xdf ci))] H.size) a) (va_A [(z, .inr (ci, xdf ci))] H.size))
    (kk : ∀ (H1 : Heap) (locs1 : List Loc) (w1 : va_W), post w1 → cH s D A (o ++ w1) H1 locs1 → W p l e R s m args below meth c H1 locs1 (cells + mc) (slots + ms) Q (F0 m (pc + 3) ls rest)) : W p l e R s m args below meth c H locs cells slots Q (F0 m pc ls st0) := by
  obtain ⟨hP, hD, hS⟩ := hH
  have hz0 : (o ++ [(z, (.inr (ci, xdf ci) : va_E))])[o.length]? = some (z, .inr (ci, xdf ci)) := by simp
  have ho : ∀ (k : Nat) (q : Nat × va_E), o[k]? = some q → (o ++ [(z, (.inr (ci, xdf ci) : va_E))])[k]? = some q ∧ k < o.length := fun k q hq => by
    have hl := (List.getElem?_eq_some_iff.mp hq).1
    exact ⟨by rw [List.getElem?_append_left hl]; exact hq, hl⟩
  have hsub : ∀ q, va_A [(z, (.inr (ci, xdf ci) : va_E))] H.size q → A q := fun q hq => by
    rcases hq with ⟨k, e', h⟩ | h
    · have hk : k < 1 := (List.getElem?_eq_some_iff.mp h).1
      rw [show k = 0 by omega] at h
      cases h
      exact hD.2 _ _ hz0
    · exact hA q (Nat.le_trans hS.1 h)
  have hnz : ∀ (k : Nat) (q : Nat × va_E), o[k]? = some q → ¬ va_A [(z, (.inr (ci, xdf ci) : va_E))] H.size q.1 := fun k q hq hc => by
    obtain ⟨h1, h2⟩ := ho k q hq
    rcases hc with ⟨k', e', h⟩ | h
    · have hk : k' < 1 := (List.getElem?_eq_some_iff.mp h).1
      rw [show k' = 0 by omega] at h
      have hzq : z = q.1 := by cases h; rfl
      have := hD.1 k o.length q _ h1 hz0 hzq.symm
      omega
    · have := (hP k q h1).lt
      omega
  intro T hT X
  obtain ⟨v, st₀, t, T', Lc, h0, X', hLc, e1, e2, ⟨⟨hv, w1, hpo, hp1, hd1⟩, hz, hk⟩, stp⟩ := hr T hT X
  cases hv
  rw [h0] at hz hk
  have hS' : va_S A s.heap T'.heap (locs ++ Lc) := by
    refine ⟨Nat.le_trans hS.1 (by rw [e1]; exact hz), fun q h1 h2 => ?_, fun q hq => ?_⟩
    · rw [e1, hk q (Nat.lt_of_lt_of_le h1 hS.1) (fun z => h2 (hsub q z))]
      exact hS.2.1 q h1 h2
    · rcases List.mem_append.mp hq with h | h
      · exact hS.2.2 q h
      · exact hsub _ (hLc q h)
  have hPo : va_P D vwCl o T'.heap := fun k q hq => by
    obtain ⟨h1, h2⟩ := ho k q hq
    refine (hP k q h1).kept ?_
    rw [e1]
    exact hk q.1 (hP k q h1).lt (hnz k q hq)
  have hDo : va_D A o := ⟨fun i j x y hi hj hxy => hD.1 i j x y (ho i x hi).1 (ho j y hj).1 hxy, fun k q hq => hD.2 k q (ho k q hq).1⟩
  have hD1 : va_D A w1 := hd1.weaken (fun k q _ hq => hsub q.1 hq)
  have hDD : va_D A (o ++ w1) := hDo.app hD1 (fun i j x y hi hj hxy => hnz i x hi (by rw [hxy]; exact hd1.2 j y hj))
  obtain ⟨t2, a1, b1⟩ := kk T'.heap (locs ++ Lc) w1 hpo ⟨hPo.app (by rw [e1]; exact hp1), hDD, hS'⟩ T' rfl X'
  exact ⟨t2, stp t2 a1, b1⟩
theorem cpre {ci z : Nat} {o : va_W} (C : cCx p R s m args meth c cc own nL D ca A) (hH : cH s D A (o ++ [(z, .inr (ci, xdf ci))]) H locs) {U : State} (hU : U.heap = H) (hW : s.WarmedH U.vm) : iPre D ca z ci H.size U := by
  obtain ⟨⟨hx, hb, hml, hown, hts⟩, hK, hA, hF⟩ := C
  obtain ⟨hP, hD, hS⟩ := hH
  have hz0 : (o ++ [(z, (.inr (ci, xdf ci) : va_E))])[o.length]? = some (z, .inr (ci, xdf ci)) := by simp
  refine ⟨by rw [hU], fun k q hq => ?_, hK.moved hW.alike, ⟨fun i j x y hi hj _ => ?_, fun _ _ _ => trivial⟩, cF_warm hW hF⟩
  · have hk : k < 1 := (List.getElem?_eq_some_iff.mp hq).1
    rw [show k = 0 by omega] at hq
    cases hq
    rw [hU]
    exact hP _ _ hz0
  · have h1 : i < 1 := (List.getElem?_eq_some_iff.mp hi).1
    have h2 : j < 1 := (List.getElem?_eq_some_iff.mp hj).1
    omega
/-- a constructor's call -/
theorem cinit {o : va_W} {z ci d mc ms idx n : Nat} {y : MethodName} {cc' : ByteArray} {nL' : Nat} {As : List Value} {post : (Nat → ClassId) → Nat → va_W → Prop} (hM : iMet y cc' nL' ci d mc ms As post) (C : cCx p R s m args meth c cc own nL D ca A) (hH : cH s D A (o ++ [(z, .inr (ci, xdf ci))]) H locs)
    (hw : ∀ x ∈ [Jvm.Cond.methodLink own idx y, .instanceMethod y, .initialized y.cls, .code y cc' nL' none], x ∈ xBig) (hy : y.name = "<init>")
    (hdd : y.cls ≠ "java/lang/invoke/MethodHandle" ∧ y.cls ≠ "java/lang/invoke/VarHandle" ∧ (parseMethodDescriptor y.desc).map (fun d => d.parameters.length) = some n) (hlen : As.length = n) (hd : d + 1 ≤ R.frames ∧ 8 + (nL' + 11) + 40 * d ≤ R.locals) (hcs : cells + mc ≤ R.cells ∧ slots + ms ≤ R.slots) (hsz : ls.size = nL) (hrest : (rest.map fun v => v.category).sum ≤ 8) (hdg : decode cc pc = .ok (.invokespecial idx, 3))
    (kk : ∀ (H1 : Heap) (locs1 : List Loc) (w1 : va_W), post ca z w1 → cH s D A (o ++ w1) H1 locs1 → W p l e R s m args below meth c H1 locs1 (cells + mc) (slots + ms) Q (F0 m (pc + 3) ls rest)) : W p l e R s m args below meth c H locs cells slots Q (F0 m pc ls (As.reverse ++ .ref z :: rest)) := by
  obtain ⟨⟨hx, hb, hml, hown, hts⟩, hK, hA, hF⟩ := id C
  have hg : GoodIn xBig (.code y cc' nL' none :: xBig) := xgood (fun x hx => by
    rcases List.mem_cons.mp hx with h | h
    · exact hw x (by rw [h]; simp)
    · exact h)
  have cw := cwI (R := R) (s := s) (args := args) (own := own) (index := idx) (y := y) (bytes := cc') (maxL := nL') (mc := mc) (ms := ms) (rm := iRm d mc ms) (ws := .code y cc' nL' none :: xBig) (Ts := xBig) n hts hg rfl rfl rfl (hts _ (hw _ (by simp))) (hts _ (hw _ (by simp))) (hts _ (hw _ (by simp))) hy hdd hd
  have hrun := va_runI (p := p) (l := l) (e := e) (R := R) (s := s) (m := m) (args := args) (below := below) (meth := meth) (c := c) (H := H) (locs := locs) (cells := cells) (slots := slots) (g := F0 m pc ls (As.reverse ++ .ref z :: rest)) (b := z) (As := As) (rest := rest) (index := idx) (nL := nL) (own := own) ⟨hx, hb, hml, hown, hts⟩ (hM l D ca z H.size) cw ⟨iPre_blind, fun U hU hW => ⟨rfl, cpre C hH hU hW⟩⟩ rfl hlen hsz rfl (lv_room hrest) hdg hcs
  exact ccore hA hH hrun kk
/-- a nest mate's constructor's call -/
theorem cinitN {o : va_W} {z ci d mc ms idx n : Nat} {y : MethodName} {cc' : ByteArray} {nL' : Nat} {As : List Value} {post : (Nat → ClassId) → Nat → va_W → Prop} {host : String} (hM : iMet y cc' nL' ci d mc ms As post) (C : cCx p R s m args meth c cc own nL D ca A) (hH : cH s D A (o ++ [(z, .inr (ci, xdf ci))]) H locs)
    (hnl : va_Nw (.methodLinkNest own idx y host) s) (hw : ∀ x ∈ [Jvm.Cond.instanceMethod y, .initialized y.cls, .code y cc' nL' none], x ∈ xBig) (hy : y.name = "<init>")
    (hdd : y.cls ≠ "java/lang/invoke/MethodHandle" ∧ y.cls ≠ "java/lang/invoke/VarHandle" ∧ (parseMethodDescriptor y.desc).map (fun d => d.parameters.length) = some n) (hlen : As.length = n) (hd : d + 1 ≤ R.frames ∧ 8 + (nL' + 11) + 40 * d ≤ R.locals) (hcs : cells + mc ≤ R.cells ∧ slots + ms ≤ R.slots) (hsz : ls.size = nL) (hrest : (rest.map fun v => v.category).sum ≤ 8) (hdg : decode cc pc = .ok (.invokespecial idx, 3))
    (kk : ∀ (H1 : Heap) (locs1 : List Loc) (w1 : va_W), post ca z w1 → cH s D A (o ++ w1) H1 locs1 → W p l e R s m args below meth c H1 locs1 (cells + mc) (slots + ms) Q (F0 m (pc + 3) ls rest)) : W p l e R s m args below meth c H locs cells slots Q (F0 m pc ls (As.reverse ++ .ref z :: rest)) := by
  obtain ⟨⟨hx, hb, hml, hown, hts⟩, hK, hA, hF⟩ := id C
  have hg : GoodIn xBig (.code y cc' nL' none :: xBig) := xgood (fun x hx => by
    rcases List.mem_cons.mp hx with h | h
    · exact hw x (by rw [h]; simp)
    · exact h)
  have cw := va_cnB (R := R) (s := s) (args := args) (own := own) (host := host) (index := idx) (y := y) (bytes := cc') (maxL := nL') (ret := none) (mc := mc) (ms := ms) (rm := iRm d mc ms) (ws := .code y cc' nL' none :: xBig) (Ts := xBig) n hts hg rfl rfl rfl hnl (hts _ (hw _ (by simp))) hdd hd
  have hrun := va_runIN (p := p) (l := l) (e := e) (R := R) (s := s) (m := m) (args := args) (below := below) (meth := meth) (c := c) (H := H) (locs := locs) (cells := cells) (slots := slots) (g := F0 m pc ls (As.reverse ++ .ref z :: rest)) (b := z) (As := As) (rest := rest) (index := idx) (nL := nL) (own := own) ⟨hx, hb, hml, hown, hts⟩ (hM l D ca z H.size) ⟨cw, hy, hts _ (hw _ (by simp))⟩ ⟨iPre_blind, fun U hU hW => ⟨rfl, cpre C hH hU hW⟩⟩ rfl hlen hsz rfl (lv_room hrest) hdg hcs
  exact ccore hA hH hrun kk
end CTOR
