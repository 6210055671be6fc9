theorem xen_len : ∀ (av : List Value) (ad : Nat → Nat), (lg_sl (av.map (xc ad))).length = (xen av).length
  | [], ad => rfl
  | u :: r, ad => by
    have ih := xen_len r ad
    have e : lg_sl ((u :: r).map (xc ad)) = (if u.category = 2 then [Slot.val (xc ad u), Slot.second] else [Slot.val (xc ad u)]) ++ lg_sl (r.map (xc ad)) := by
      show (if (xc ad u).category = 2 then [Slot.val (xc ad u), Slot.second] else [Slot.val (xc ad u)]) ++ lg_sl (r.map (xc ad)) = _
      rw [xc_cat]
    rw [e]
    cases u <;> simp [xen, Value.category, ih]
def xrep : Nat → xL
  | 0 => []
  | n + 1 => none :: xrep n
def xenp : Nat → List Value → xL
  | n, [] => xrep n
  | n, .long x :: r => some (.long x) :: none :: xenp (n - 2) r
  | n, .double x :: r => some (.double x) :: none :: xenp (n - 2) r
  | n, v :: r => some v :: xenp (n - 1) r
theorem xrep_at : ∀ {n j : Nat} {v : Value}, ¬ (xrep n)[j]? = some (some v)
  | 0, j, v, h => by simp [xrep] at h
  | n + 1, 0, v, h => by simp [xrep] at h
  | n + 1, j + 1, v, h => xrep_at (n := n) (j := j) (v := v) (by simpa [xrep] using h)
theorem xenp_at : ∀ (av : List Value) (n j : Nat) (v : Value), (xenp n av)[j]? = some (some v) → (xen av)[j]? = some (some v)
  | [], n, j, v, h => absurd h xrep_at
  | u :: r, n, j, v, h => by
    have one : u.category = 1 → xen (u :: r) = some u :: xen r ∧ xenp n (u :: r) = some u :: xenp (n - 1) r := by
      intro hc
      cases u <;> first | exact ⟨rfl, rfl⟩ | (exact absurd hc (by simp [Value.category]))
    have two : u.category = 2 → xen (u :: r) = some u :: none :: xen r ∧ xenp n (u :: r) = some u :: none :: xenp (n - 2) r := by
      intro hc
      cases u <;> first | exact ⟨rfl, rfl⟩ | (exact absurd hc (by simp [Value.category]))
    rcases lv_cat u with hc | hc
    · rw [(one hc).1]
      rw [(one hc).2] at h
      cases j with
      | zero => simpa using h
      | succ j => simpa using xenp_at r (n - 1) j v (by simpa using h)
    · rw [(two hc).1]
      rw [(two hc).2] at h
      match j with
      | 0 => simpa using h
      | 1 => simp at h
      | j + 2 => simpa using xenp_at r (n - 2) j v (by simpa using h)
set_option maxHeartbeats 4000000 in
set_option maxRecDepth 100000 in
theorem xRt_met {p : Program} {l : Launch} {e : Env} {R : Room} {s : State} {m : MethodId} {args : Array Value} {below : List Frame} {meth : Method} {c : Code} {w : xD} {ad : Nat → Nat} {ca : Nat → ClassId} {D : va_G} {A0 : Nat → Prop} {nL : Nat} {cc : ByteArray} {own : String} {ret : Option FieldType} {d : Nat} {rb : Nat} {r0 : Option Value} {σ1 : xS} (C : xCx p R s m args meth c 0 0 cc own ret nL w ad ca D A0 d) (hrw : xRw ret rb) : xRt p l e R s m args below meth c 0 0 (MQ below (xQ w D ad ca r0 σ1 A0) args s 0 0 A0) w ad ca D A0 nL cc rb (fun r σ => r = r0 ∧ σ = σ1) := by
  obtain ⟨hx, hb, hml, hr, hlocks, hown, hts, hKK, hD, hA, hXX, hnd, hR, hcs⟩ := C
  rintro r σ pc L ⟨rfl, rfl⟩ hi H locs ls hP hS hL
  match r, hi with
  | some (.int x), hi =>
    obtain ⟨hdg, hi⟩ := hi
    rcases hi with rfl | ⟨rfl, hx01⟩
    · exact W.iret (v := x) hx hb (hr.trans hrw) (fun t ht hW => ⟨⟨rfl, by rw [ht]; exact hP⟩, hS.F ht⟩) hS.2.2 hdg hlocks
    · exact W.zret (v := x) (ty := .boolean) hx hb (hr.trans hrw) (by rcases hx01 with rfl | rfl <;> rfl) (fun t ht hW => ⟨⟨rfl, by rw [ht]; exact hP⟩, hS.F ht⟩) hS.2.2 hdg hlocks
  | some (.long x), hi =>
    obtain ⟨hdg, rfl⟩ := hi
    exact W.lret (v := x) hx hb (hr.trans hrw) (fun t ht hW => ⟨⟨rfl, by rw [ht]; exact hP⟩, hS.F ht⟩) hS.2.2 hdg hlocks
  | some (.ref x), hi =>
    obtain ⟨hdg, rfl⟩ := hi
    obtain ⟨nm, hnm⟩ := hrw
    exact W.aret (v := .ref (ad x)) hx hb (hr.trans hnm) (Or.inl ⟨nm, rfl⟩) (Or.inr ⟨_, rfl⟩) (fun t ht hW => ⟨⟨rfl, by rw [ht]; exact hP⟩, hS.F ht⟩) hS.2.2 hdg hlocks
  | some .null, hi =>
    obtain ⟨hdg, rfl⟩ := hi
    obtain ⟨nm, hnm⟩ := hrw
    exact W.aret (v := .null) hx hb (hr.trans hnm) (Or.inl ⟨nm, rfl⟩) (Or.inl rfl) (fun t ht hW => ⟨⟨rfl, by rw [ht]; exact hP⟩, hS.F ht⟩) hS.2.2 hdg hlocks
  | none, hi =>
    obtain ⟨hdg, rfl⟩ := hi
    exact W.vret hx hb (hr.trans hrw) (fun t ht hW => ⟨⟨rfl, by rw [ht]; exact hP⟩, hS.F ht⟩) hS.2.2 hdg hlocks
/-- a call's entry in a method's table is true wherever the method runs -/
def xCk (w : xD) (nL : Nat) (cc : ByteArray) (own : String) (d idx : Nat) (q : xCall) : Prop :=
  ∀ (p : Program) (l : Launch) (e : Env) (R : Room) (s : State) (m : MethodId) (args : Array Value) (below : List Frame) (meth : Method) (c : Code) (cells slots : Nat) (Q : State → Prop) (ad : Nat → Nat) (ca : Nat → ClassId) (D : va_G) (A0 : Nat → Prop) (ret : Option FieldType), xCx p R s m args meth c cells slots cc own ret nL w ad ca D A0 d → xCl p l e R s m args below meth c cells slots Q w ad ca D A0 nL cc idx q
set_option maxHeartbeats 4000000 in
set_option maxRecDepth 100000 in
theorem xMet_of {w : xD} {y : MethodName} {cc : ByteArray} {nL : Nat} {ret : Option FieldType} {d : Nat} {pre : List Value → xS → Prop} {fn : List Value → xS → Option Value × xS}
    {fld : Nat → Option (Nat × Nat × Nat)} {cal : Nat → Option xCall} {ks : Nat → Option Value} {gs : Nat → Option Nat} {ro : Nat → Option (Nat × (Nat → Int32))} (rb : Nat)
    (hy : plainName y.cls = true) (hnd : w.1.Nodup) (hrw : xRw ret rb) (hF : xFt y.cls fld) (hKs : xKs y.cls ks) (hGs : xGs y.cls gs) (hro : ro = xro ∨ ro = fun _ => none)
    (hcal : ∀ idx q, cal idx = some q → xCk w nL cc y.cls d idx q) (hlen : ∀ av σ, pre av σ → (xen av).length ≤ nL)
    (hbody : ∀ av σ, pre av σ → ∀ Rt : Option Value → xS → Prop, (∀ r σ', Rt r σ' = (r = (fn av σ).1 ∧ σ' = (fn av σ).2)) → xGo w nL fld cal ks gs ro rb cc Rt 0 (xenp nL av) [] σ) : xMet w y cc nL ret d pre fn := by
  intro l D ad ca av σ sz hpre
  refine Met.ofW (cc := cc) (maxL := nL) (ret := ret) hy rfl ?_
  intro p e s m args below meth c s₁ B hml hv
  obtain ⟨rfl, hsz, hP, hK, hD0, hXX⟩ := hv
  have hx := B.exec
  have hb := B.bytes
  have hr := B.returns
  have hts := atoms_spec (ws := .code y cc nL ret :: xBig) B.pre
  have hown : s.vm.findClass y.cls = some m.cls := findClass_of_methodNamed B.named
  have hlocks := B.notSynchronized
  subst hsz
  have hD := hD0.self (sz := s.heap.size)
  have C : xCx p (headSpec (.code y cc nL ret :: xBig) (xRm d)).room s m (av.map (xc ad)).toArray meth c 0 0 cc y.cls ret nL w ad ca D (va_A (xW w ad ca σ) s.heap.size) d :=
    ⟨hx, hb, hml, hr, hlocks, hown, fun x h => hts x (List.mem_cons_of_mem _ h), hK, xW_D hD, fun q h => Or.inr h, hXX, hnd, ⟨Nat.le_refl _, Nat.le_refl _⟩, ⟨Nat.le_refl _, Nat.le_refl _⟩⟩
  have hl := lv_entry (av.map (xc ad)) (n := nL) (by rw [xen_len]; exact hlen av σ hpre)
  rw [lg_entry_eq]
  generalize (lg_sl (av.map (xc ad)) ++ List.replicate (nL - (lg_sl (av.map (xc ad))).length) Slot.unset).toArray = ls at hl ⊢
  have hL : xh ad ls nL (xenp nL av) := ⟨hl.1, hl.2.1, fun j v hj => by
    have h1 := hl.2.2 _ (xen_at av ad 0 j v (xenp_at av nL j v hj))
    simpa using h1⟩
  refine hbody av σ hpre (fun r σ' => r = (fn av σ).1 ∧ σ' = (fn av σ).2) (fun _ _ => rfl) p l e _ s m _ below meth c 0 0 _ ad ca D (va_A (xW w ad ca σ) s.heap.size) y.cls ret d ⟨C, hF, ?_, ?_, ?_, ?_, xRt_met C hrw⟩ s.heap [] ls hP va_S.rf hL
  · intro idx v hv
    have h1 := hKs idx v hv
    cases v with
    | int x => exact hts _ (List.mem_cons_of_mem _ h1)
    | long x => exact hts _ (List.mem_cons_of_mem _ h1)
    | ref a =>
      obtain ⟨e1, i, hi, e2, e3⟩ := h1
      rw [e1, e2, e3]
      exact ⟨_, hXX.2.2.2.1 i hi⟩
    | _ => exact False.elim h1
  · intro idx a ha
    rcases hGs idx a ha with ⟨e1, h1⟩ | ⟨e1, h1⟩
    · rw [e1]; exact ⟨_, _, _, hXX.1.1, hts _ (List.mem_cons_of_mem _ h1)⟩
    · rw [e1]; exact ⟨_, _, _, hXX.2.1.1, hts _ (List.mem_cons_of_mem _ h1)⟩
  · intro a n g ha
    rcases hro with rfl | rfl
    · unfold xro at ha
      split at ha
      · rename_i e1; cases ha; rw [e1]; exact hXX.1.2
      · split at ha
        · rename_i e1; cases ha; rw [e1]; exact hXX.2.1.2
        · cases ha
    · cases ha
  · intro idx q hq
    exact hcal idx q hq p l e _ s m _ below meth c 0 0 _ ad ca D _ ret C
/-! calls -/
theorem xcat4 {ad : Nat → Nat} {st : List Value} (h : st.length ≤ 4) : ((st.map (xc ad)).map fun v => v.category).sum ≤ 8 := by
  have key : ∀ (l : List Value), ((l.map (xc ad)).map fun v => v.category).sum ≤ 2 * l.length := by
    intro l
    induction l with
    | nil => simp
    | cons a l ih =>
      simp only [List.map_cons, List.sum_cons, List.length_cons]
      rcases lv_cat (xc ad a) with h | h <;> omega
  have := key st
  omega
section XRUN
variable {p : Program} {l : Launch} {e : Env} {R : Room} {s : State} {m : MethodId} {args : Array Value} {below : List Frame} {meth : Method} {c : Code} {cells slots : Nat} {Q : State → Prop} {w : xD} {ad : Nat → Nat} {ca : Nat → ClassId} {D : va_G} {A0 : Nat → Prop} {nL : Nat} {cc : ByteArray} {own : String} {ret : Option FieldType} {d : Nat}
set_option maxHeartbeats 4000000 in
set_option maxRecDepth 100000 in
theorem xrun_go {H : Heap} {locs : List Loc} {ls : Array Slot} {pc : Nat} {L : xL} {st st0 : List Value} {r : Option Value} {σ' : xS} {A1 : Nat → Prop} {a : Array Value} (hr : va_Run p l e R s m args below meth c H locs cells slots 0 0 (F0 m pc ls st0) (st.map (xc ad)) (xQ w D ad ca r σ' A1 a) A1) (hS : va_S A0 s.heap H locs) (hA : ∀ q, A1 q → A0 q) (hL : xh ad ls nL L) (kk : xG p l e R s m args below meth c cells slots Q w ad ca D A0 nL (pc + 3) L (r.toList ++ st) σ') : W p l e R s m args below meth c H locs cells slots Q (F0 m pc ls st0) := by
  intro T hT X
  obtain ⟨v, st₀, t, T', Lc, h0, X', hLc, e1, e2, ⟨⟨hv, hp⟩, hz, hk⟩, stp⟩ := hr T hT X
  cases hv
  rw [h0] at hz hk
  have hS' : va_S A0 s.heap T'.heap (locs ++ Lc) := by
    refine ⟨Nat.le_trans hS.1 (by rw [e1]; exact hz), fun q h1 h2 => ?_, fun q hq => ?_⟩
    · rw [e1, hk q (Nat.lt_of_lt_of_le h1 hS.1) (fun z => h2 (hA q z))]
      exact hS.2.1 q h1 h2
    · rcases List.mem_append.mp hq with h | h
      · exact hS.2.2 q h
      · exact hA _ (hLc q h)
  obtain ⟨t2, a1, b1⟩ := kk T'.heap (locs ++ Lc) ls (by rw [e1]; exact hp) hS' hL T' rfl X'
  refine ⟨t2, stp t2 ?_, b1⟩
  have e : (r.map (xc ad)).toList ++ st.map (xc ad) = (r.toList ++ st).map (xc ad) := by cases r <;> simp
  show Steps p.tables _ below (T'.setTop (F0 m (pc + 3) ls ((r.map (xc ad)).toList ++ st.map (xc ad)))) t2
  rw [e]
  exact a1
theorem xpre_at {H : Heap} {locs : List Loc} {σ : xS} (C : xCx p R s m args meth c cells slots cc own ret nL w ad ca D A0 d) (hP : va_P D vwCl (xW w ad ca σ) H) (hS : va_S A0 s.heap H locs) {U : State} (hU : U.heap = H) (hW : s.WarmedH U.vm) : xPre w D ad ca σ H.size U := by
  obtain ⟨hx, hb, hml, hr, hlocks, hown, hts, hKK, hD, hA, hXX, hnd, hR, hcs⟩ := C
  refine ⟨by rw [hU], by rw [hU]; exact hP, va_K.moved hW.alike hKK, (hD σ).weaken (fun _ _ _ _ => trivial), ?_⟩
  rw [hU]
  refine xX_warm hW (xX_narrow (xX_kept hXX hS.2.1) (fun q hq => ?_))
  rcases hq with ⟨k, e2, h⟩ | h
  · exact (hD σ).2 k _ h
  · exact hA q (Nat.le_trans hS.1 h)
theorem xA_sub {H : Heap} {locs : List Loc} {σ : xS} (C : xCx p R s m args meth c cells slots cc own ret nL w ad ca D A0 d) (hS : va_S A0 s.heap H locs) : ∀ q, va_A (xW w ad ca σ) H.size q → A0 q := by
  obtain ⟨hx, hb, hml, hr, hlocks, hown, hts, hKK, hD, hA, hXX, hnd, hR, hcs⟩ := C
  intro q hq
  rcases hq with ⟨k, e2, h⟩ | h
  · exact (hD σ).2 k _ h
  · exact hA q (Nat.le_trans hS.1 h)
end XRUN
theorem xgood {ws : List Cond} (h : ∀ w ∈ ws, w ∈ xBig) : GoodIn xBig ws := fun w hw => xBig_good w (h w hw)
set_option maxHeartbeats 4000000 in
set_option maxRecDepth 100000 in
theorem xCk_V {w : xD} {nL : Nat} {cc : ByteArray} {own : String} {d idx : Nat} {y : MethodName} {cc' : ByteArray} {nL' : Nat} {ret' : Option FieldType} {d' n : Nat} {pre : List Value → xS → Prop} {fn : List Value → xS → Option Value × xS} (hM : xMet w y cc' nL' ret' d' pre fn) (ci : Nat)
    (hd : d' < d) (hn : nL' ≤ 21) (hci : ci < 8) (hyc : y.cls = xNm ci) (hpre : ∀ as σ, pre as σ → as.length = n + 1 → ∃ K as', as = .ref K :: as' ∧ xob w K ci)
    (hw : ∀ x ∈ [Jvm.Cond.methodLink own idx y, .instanceMethod y, .selects y.cls y y, .initialized y.cls, .code y cc' nL' ret'], x ∈ xBig)
    (hdd : y.cls ≠ "java/lang/invoke/MethodHandle" ∧ y.cls ≠ "java/lang/invoke/VarHandle" ∧ (parseMethodDescriptor y.desc).map (fun d => d.parameters.length) = some n) : xCk w nL cc own d idx (false, n + 1, pre, fn) := by
  intro p l e R s m args below meth c cells slots Q ad ca D A0 ret C
  intro pc L as st σ hdg hlen hst hp kk H locs ls hP hS hL
  obtain ⟨hx, hb, hml, hr, hlocks, hown, hts, hKK, hD, hA, hXX, hnd, hR, hcs⟩ := id C
  obtain ⟨K, as', rfl, hk, hkd⟩ := hpre as σ hp hlen
  obtain ⟨q0, hq, he⟩ := xW_at (w := w) (ad := ad) (ca := ca) (σ := σ) hk
  rw [xE_ob hkd] at he
  have hrv := va_recv hKK hP (xcl hci) he
  have hcw : CallW R s args own (xNm ci) idx y cc' nL' ret' (.code y cc' nL' ret' :: xBig) (xRm d') 0 0 n :=
    cwV (Ts := xBig) n hts (xgood (fun x hx => by
      rcases List.mem_append.mp hx with h | h
      · refine hw x ?_
        rw [← hyc] at h
        simp only [List.mem_cons, List.not_mem_nil, or_false] at h ⊢
        rcases h with h | h | h | h
        · exact Or.inl h
        · exact Or.inr (Or.inl h)
        · exact Or.inr (Or.inr (Or.inl h))
        · exact Or.inr (Or.inr (Or.inr (Or.inl h)))
      · rcases List.mem_cons.mp h with h | h
        · refine hw x ?_
          rw [h]
          simp
        · exact h)) rfl rfl rfl ⟨hyc, hdd⟩ ⟨by show d' + 1 ≤ R.frames; omega, by show 8 + (nL' + 11) + 40 * d' ≤ R.locals; omega⟩
  have hlen' : as'.length = n := by simpa using hlen
  have hrun := va_runV (p := p) (l := l) (e := e) (R := R) (s := s) (m := m) (args := args) (below := below) (meth := meth) (c := c) (H := H) (locs := locs) (cells := cells) (slots := slots) (g := F0 m pc ls (((Value.ref K :: as').reverse ++ st).map (xc ad))) (b := ad K) (As := as'.map (xc ad)) (rest := st.map (xc ad)) (index := idx) (nL := nL) (own := own) ⟨hx, hb, hml, hown, hts⟩ (hM l D ad ca (Value.ref K :: as') σ H.size hp) hcw
    ⟨xPre_blind, hrv, fun U hU hW => ⟨rfl, xpre_at C hP hS hU hW⟩⟩ rfl (by simpa using hlen') hL.1 (by simp [xc]) (lv_room (xcat4 hst)) hdg ⟨by omega, by omega⟩
  exact xrun_go hrun hS (xA_sub C hS) hL kk
set_option maxHeartbeats 4000000 in
set_option maxRecDepth 100000 in
theorem xCk_S {w : xD} {nL : Nat} {cc : ByteArray} {own : String} {d idx : Nat} {y : MethodName} {cc' : ByteArray} {nL' : Nat} {ret' : Option FieldType} {d' n : Nat} {pre : List Value → xS → Prop} {fn : List Value → xS → Option Value × xS} (hM : xMet w y cc' nL' ret' d' pre fn)
    (hd : d' < d) (hn : nL' ≤ 21)
    (hw : ∀ x ∈ [Jvm.Cond.methodLink own idx y, .static y, .initialized y.cls, .code y cc' nL' ret'], x ∈ xBig)
    (hdd : y.cls ≠ "java/lang/invoke/MethodHandle" ∧ y.cls ≠ "java/lang/invoke/VarHandle" ∧ (parseMethodDescriptor y.desc).map (fun d => d.parameters.length) = some n) : xCk w nL cc own d idx (true, n, pre, fn) := by
  intro p l e R s m args below meth c cells slots Q ad ca D A0 ret C
  intro pc L as st σ hdg hlen hst hp kk H locs ls hP hS hL
  obtain ⟨hx, hb, hml, hr, hlocks, hown, hts, hKK, hD, hA, hXX, hnd, hR, hcs⟩ := id C
  have hcw := va_cwS (R := R) (s := s) (args := args) (own := own) (index := idx) (y := y) (bytes := cc') (maxL := nL') (ret := ret') (mc := 0) (ms := 0) (rm := xRm d') (ws := .code y cc' nL' ret' :: xBig) (Ts := xBig) n hts (xgood (fun x hx => by
      rcases List.mem_append.mp hx with h | h
      · refine hw x ?_
        simp only [List.mem_cons, List.not_mem_nil, or_false] at h ⊢
        rcases h with h | h | h
        · exact Or.inl h
        · exact Or.inr (Or.inl h)
        · exact Or.inr (Or.inr (Or.inl h))
      · rcases List.mem_cons.mp h with h | h
        · refine hw x ?_
          rw [h]
          simp
        · exact h)) rfl rfl rfl hdd ⟨by show d' + 1 ≤ R.frames; omega, by show 8 + (nL' + 11) + 40 * d' ≤ R.locals; omega⟩
  have hrun := va_runS (p := p) (l := l) (e := e) (R := R) (s := s) (m := m) (args := args) (below := below) (meth := meth) (c := c) (H := H) (locs := locs) (cells := cells) (slots := slots) (g := F0 m pc ls ((as.reverse ++ st).map (xc ad))) (As := as.map (xc ad)) (rest := st.map (xc ad)) (index := idx) (nL := nL) (own := own) ⟨hx, hb, hml, hown, hts⟩ (hM l D ad ca as σ H.size hp) hcw
    ⟨xPre_blind, fun U hU hW => ⟨rfl, xpre_at C hP hS hU hW⟩⟩ rfl (by simpa using hlen) hL.1 (by simp) (lv_room (xcat4 hst)) hdg ⟨by omega, by omega⟩
  exact xrun_go hrun hS (xA_sub C hS) hL kk
