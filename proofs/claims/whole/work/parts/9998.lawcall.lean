/-! THE LAW'S WALK: calls of the law, argument by argument -/
section LAWCALL
variable {p : Program} {l : Launch} {e : Env} {R : Room} {s : State} {m : MethodId} {args : Array Value} {below : List Frame} {meth : Method} {c : Code} {cells slots : Nat} {Q : State → Prop}
set_option maxHeartbeats 1000000 in
set_option maxRecDepth 100000 in
/-- a call on one world; the other stays -/
theorem lcall {w w2 : xD} {ad ad2 : Nat → Nat} {ca : Nat → ClassId} {D : va_G} {A0 : Nat → Prop} {σ τ : xS} {cc : ByteArray} {own : String} {ret : Option FieldType} {nL d : Nat} {H : Heap} {locs : List Loc} {ls : Array Slot} {pc : Nat} {y : MethodName} {cc' : ByteArray} {nL' : Nat} {ret' : Option FieldType} {d' n : Nat} {pre : List Value → xS → Prop} {fn : List Value → xS → Option Value × xS} {idx ci K : Nat} {as' rest : List Value}
    (C : xCx p R s m args meth c cells slots cc own ret nL w ad ca D A0 d) (hcross : ∀ a ∈ w.1, ∀ b ∈ w2.1, ad a ≠ ad2 b) (hP : va_P D vwCl (xW w ad ca σ) H) (hP2 : va_P D vwCl (xW w2 ad2 ca τ) H) (hS : va_S A0 s.heap H locs) (hsz : ls.size = nL)
    (hM : xMet w y cc' nL' ret' d' pre fn) (hp : pre (.ref K :: as') σ) (hk : xob w K ci) (hci : ci < 8) (hyc : y.cls = xNm ci) (hd : d' < d) (hn : nL' ≤ 21)
    (hw : ∀ x ∈ [Jvm.Cond.methodLink own idx y, .instanceMethod y, .selects y.cls y y, .initialized y.cls, .code y cc' nL' ret'], x ∈ xBig)
    (hdd : y.cls ≠ "java/lang/invoke/MethodHandle" ∧ y.cls ≠ "java/lang/invoke/VarHandle" ∧ (parseMethodDescriptor y.desc).map (fun d => d.parameters.length) = some n) (hlen : as'.length = n)
    (hrest : (rest.map fun v => v.category).sum ≤ 8) (hdg : decode cc pc = .ok (.invokevirtual idx, 3))
    (kk : ∀ (H1 : Heap) (locs1 : List Loc), va_P D vwCl (xW w ad ca (fn (.ref K :: as') σ).2) H1 → va_P D vwCl (xW w2 ad2 ca τ) H1 → va_S A0 s.heap H1 locs1 → W p l e R s m args below meth c H1 locs1 cells slots Q (F0 m (pc + 3) ls (((fn (.ref K :: as') σ).1.map (xc ad)).toList ++ rest))) :
    W p l e R s m args below meth c H locs cells slots Q (F0 m pc ls ((as'.map (xc ad)).reverse ++ .ref (ad K) :: rest)) := by
  obtain ⟨hx, hb, hml, hr, hlocks, hown, hts, hKK, hD, hA, hXX, hnd, hR, hcs⟩ := id C
  obtain ⟨q0, hq, he⟩ := xW_at (w := w) (ad := ad) (ca := ca) (σ := σ) hk.1
  rw [xE_ob hk.2] at he
  have hrv := va_recv hKK hP (xcl hci) he
  have hcw : CallW R s args own (xNm ci) idx y cc' nL' ret' (.code y cc' nL' ret' :: xBig) (xRm d') 0 0 n :=
    cwV (Ts := xBig) n hts (xgood (fun x hx => by
      rcases List.mem_append.mp hx with h | h
      · refine hw x ?_
        rw [← hyc] at h
        simp only [List.mem_cons, List.not_mem_nil, or_false] at h ⊢
        rcases h with h | h | h | h
        · exact Or.inl h
        · exact Or.inr (Or.inl h)
        · exact Or.inr (Or.inr (Or.inl h))
        · exact Or.inr (Or.inr (Or.inr (Or.inl h)))
      · rcases List.mem_cons.mp h with h | h
        · refine hw x ?_
          rw [h]
          simp
        · exact h)) rfl rfl rfl ⟨hyc, hdd⟩ ⟨by show d' + 1 ≤ R.frames; omega, by show 8 + (nL' + 11) + 40 * d' ≤ R.locals; omega⟩
  have hrun := va_runV (p := p) (l := l) (e := e) (R := R) (s := s) (m := m) (args := args) (below := below) (meth := meth) (c := c) (H := H) (locs := locs) (cells := cells) (slots := slots) (g := F0 m pc ls ((as'.map (xc ad)).reverse ++ .ref (ad K) :: rest)) (b := ad K) (As := as'.map (xc ad)) (rest := rest) (index := idx) (nL := nL) (own := own) ⟨hx, hb, hml, hown, hts⟩ (hM l D ad ca (Value.ref K :: as') σ H.size hp) hcw
    ⟨xPre_blind, hrv, fun U hU hW => ⟨rfl, xpre_at C hP hS hU hW⟩⟩ rfl (by simpa using hlen) hsz rfl (lv_room hrest) hdg ⟨by omega, by omega⟩
  have hsub := xA_sub (σ := σ) C hS
  intro T hT X
  obtain ⟨v, st₀, t, T', Lc, h0, X', hLc, e1, e2, ⟨⟨hv, hp⟩, hz, hk1⟩, stp⟩ := hrun T hT X
  cases hv
  rw [h0] at hz hk1
  have hS' : va_S A0 s.heap T'.heap (locs ++ Lc) := by
    refine ⟨Nat.le_trans hS.1 (by rw [e1]; exact hz), fun q h1 h2 => ?_, fun q hq => ?_⟩
    · rw [e1, hk1 q (Nat.lt_of_lt_of_le h1 hS.1) (fun z => h2 (hsub q z))]
      exact hS.2.1 q h1 h2
    · rcases List.mem_append.mp hq with h | h
      · exact hS.2.2 q h
      · exact hsub _ (hLc q h)
  have hP2' : va_P D vwCl (xW w2 ad2 ca τ) T'.heap := by
    refine hP2.kept (fun k q hq2 => ?_)
    rw [e1]
    refine hk1 q.1 (hP2 k q hq2).lt (fun z => ?_)
    rcases z with ⟨k', e', hz'⟩ | hz'
    · obtain ⟨K1, a1, a2⟩ := xW_addr hz'
      obtain ⟨K2, b1, b2⟩ := xW_addr hq2
      exact hcross K1 (List.mem_of_getElem? a1) K2 (List.mem_of_getElem? b1) (a2.symm.trans b2)
    · have := (hP2 k q hq2).lt
      omega
  obtain ⟨t2, a1, b1⟩ := kk T'.heap (locs ++ Lc) (by rw [e1]; exact hp) hP2' hS' T' rfl X'
  exact ⟨t2, stp t2 a1, b1⟩
end LAWCALL
/-- what stays the same through the whole of the law's run -/
def LSt (p : Program) (s : State) (m : MethodId) (meth : Method) (c : Code) (b L : Nat) (xs : Nat → Int32) (D : va_G) (ca : Nat → ClassId) (aX aM : Nat → Nat) (A0 : Nat → Prop) (cells slots : Nat) : Prop :=
  xCx p room_1 s m #[Value.ref b] meth c cells slots cL_law RL ret 4 WX aX ca D A0 100 ∧ xCx p room_1 s m #[Value.ref b] meth c cells slots cL_law RL ret 4 WM aM ca D A0 100 ∧ (∀ a ∈ WX.1, ∀ b ∈ WM.1, aX a ≠ aM b) ∧ (va_X b L xs s s.heap ∧ b < s.heap.size ∧ ¬ A0 b) ∧ (L ≤ 3072 ∧ cells ≤ 600000 ∧ slots ≤ 7302250)
/-- the world between two calls -/
def LHp (s : State) (D : va_G) (ca : Nat → ClassId) (aX aM : Nat → Nat) (A0 : Nat → Prop) (σ τ : xS) (H : Heap) (locs : List Loc) : Prop := (va_P D vwCl (xW WX aX ca σ) H ∧ va_P D vwCl (xW WM aM ca τ) H) ∧ va_S A0 s.heap H locs
def LLs (b i : Nat) (aX aM : Nat → Nat) (ls : Array Slot) : Prop := lv_has ls 4 [(3, .int (nI i)), (0, .ref b), (1, .ref (aX 0)), (2, .ref (aM 0))]
section LAWSTEP
variable {p : Program} {l : Launch} {e : Env} {s : State} {m : MethodId} {below : List Frame} {meth : Method} {c : Code} {cells slots : Nat} {Q : State → Prop} {b L i : Nat} {xs : Nat → Int32} {D : va_G} {ca : Nat → ClassId} {aX aM : Nat → Nat} {A0 : Nat → Prop} {σ τ : xS} {H : Heap} {locs : List Loc} {ls : Array Slot} {pc : Nat} {rest : List Value}
/-- an int of the script -/
theorem larg (C : LSt p s m meth c b L xs D ca aX aM A0 cells slots) (hH : LHp s D ca aX aM A0 σ τ H locs) (hl : LLs b i aX aM ls) (hi : i + 6 ≤ L) {k : Nat} (hk : k < 6) {z : Int} (hz : Int32.ofInt z = nI k)
    (d0 : decode cL_law pc = .ok (.aload_n 0, 1)) (d1 : decode cL_law (pc + 1) = .ok (.iload_n 3, 1)) (d2 : decode cL_law (pc + 2) = .ok (.iconst z, 1)) (d3 : decode cL_law (pc + 3) = .ok (.iadd, 1)) (d4 : decode cL_law (pc + 4) = .ok (.iaload, 1))
    (kk : W p l e room_1 s m #[Value.ref b] below meth c H locs cells slots Q (F0 m (pc + 5) ls (.int (xs (i + k)) :: rest))) : W p l e room_1 s m #[Value.ref b] below meth c H locs cells slots Q (F0 m pc ls rest) := by
  obtain ⟨hx, hb, -⟩ := C.1
  obtain ⟨hX, hbl, hbA⟩ := C.2.2.2.1
  have hL := C.2.2.2.2.1
  refine lv_aload_n hx hb d0 rfl (lv_at hl 1 rfl) ?_
  refine lv_iload_n hx hb d1 rfl (lv_at hl 0 rfl) ?_
  refine lv_iconst (v := nI k) hx hb d2 hz ?_
  refine lv_iadd hx hb d3 ?_
  rw [nI_add]
  refine va_sld hx hb hX hbl hbA hH.2 (vp_in_nI (show i + k < L by omega) (by omega)) d4 ?_
  rw [show (nI (i + k)).toNatClampNeg = i + k from nI_clamp (by omega)]
  exact kk
/-- a call of the class -/
theorem lcX (C : LSt p s m meth c b L xs D ca aX aM A0 cells slots) (hH : LHp s D ca aX aM A0 σ τ H locs) (hl : LLs b i aX aM ls) {y : MethodName} {cc' : ByteArray} {nL' : Nat} {ret' : Option FieldType} {d' n : Nat} {pre : List Value → xS → Prop} {fn : List Value → xS → Option Value × xS} {idx : Nat} {as' : List Value} {r : Value} {σ' : xS}
    (hM : xMet WX y cc' nL' ret' d' pre fn) (hp : pre (.ref 0 :: as') σ) (hf : fn (.ref 0 :: as') σ = (some r, σ')) (hr : xc aX r = r) (has : as'.map (xc aX) = as') (hyc : y.cls = RX6) (hd : d' < 100) (hn : nL' ≤ 21)
    (hw : ∀ x ∈ [Jvm.Cond.methodLink RL idx y, .instanceMethod y, .selects y.cls y y, .initialized y.cls, .code y cc' nL' ret'], x ∈ xBig)
    (hdd : y.cls ≠ "java/lang/invoke/MethodHandle" ∧ y.cls ≠ "java/lang/invoke/VarHandle" ∧ (parseMethodDescriptor y.desc).map (fun d => d.parameters.length) = some n) (hlen : as'.length = n)
    (hrest : (rest.map fun v => v.category).sum ≤ 8) (hdg : decode cL_law pc = .ok (.invokevirtual idx, 3))
    (kk : ∀ (H1 : Heap) (locs1 : List Loc), LHp s D ca aX aM A0 σ' τ H1 locs1 → W p l e room_1 s m #[Value.ref b] below meth c H1 locs1 cells slots Q (F0 m (pc + 3) ls (r :: rest))) :
    W p l e room_1 s m #[Value.ref b] below meth c H locs cells slots Q (F0 m pc ls (as'.reverse ++ .ref (aX 0) :: rest)) := by
  have := lcall (l := l) (e := e) (below := below) (Q := Q) (rest := rest) (pc := pc) (ls := ls) (as' := as') C.1 C.2.2.1 hH.1.1 hH.1.2 hH.2 hl.1 hM hp ob6 (by omega) hyc hd hn hw hdd hlen hrest hdg (fun H1 locs1 h1 h2 h3 => by
    rw [hf] at h1 ⊢
    have hee : ((some r).map (xc aX)).toList ++ rest = r :: rest := by simp [hr]
    show W p l e room_1 s m #[Value.ref b] below meth c H1 locs1 cells slots Q (F0 m (pc + 3) ls (((some r).map (xc aX)).toList ++ rest))
    rw [hee]
    exact kk H1 locs1 ⟨⟨h1, h2⟩, h3⟩)
  rw [has] at this
  exact this
/-- a call of the reference -/
theorem lcM (C : LSt p s m meth c b L xs D ca aX aM A0 cells slots) (hH : LHp s D ca aX aM A0 σ τ H locs) (hl : LLs b i aX aM ls) {y : MethodName} {cc' : ByteArray} {nL' : Nat} {ret' : Option FieldType} {d' n : Nat} {pre : List Value → xS → Prop} {fn : List Value → xS → Option Value × xS} {idx : Nat} {as' : List Value} {r : Value} {τ' : xS}
    (hM : xMet WM y cc' nL' ret' d' pre fn) (hp : pre (.ref 0 :: as') τ) (hf : fn (.ref 0 :: as') τ = (some r, τ')) (hr : xc aM r = r) (has : as'.map (xc aM) = as') (hyc : y.cls = RX7) (hd : d' < 100) (hn : nL' ≤ 21)
    (hw : ∀ x ∈ [Jvm.Cond.methodLink RL idx y, .instanceMethod y, .selects y.cls y y, .initialized y.cls, .code y cc' nL' ret'], x ∈ xBig)
    (hdd : y.cls ≠ "java/lang/invoke/MethodHandle" ∧ y.cls ≠ "java/lang/invoke/VarHandle" ∧ (parseMethodDescriptor y.desc).map (fun d => d.parameters.length) = some n) (hlen : as'.length = n)
    (hrest : (rest.map fun v => v.category).sum ≤ 8) (hdg : decode cL_law pc = .ok (.invokevirtual idx, 3))
    (kk : ∀ (H1 : Heap) (locs1 : List Loc), LHp s D ca aX aM A0 σ τ' H1 locs1 → W p l e room_1 s m #[Value.ref b] below meth c H1 locs1 cells slots Q (F0 m (pc + 3) ls (r :: rest))) :
    W p l e room_1 s m #[Value.ref b] below meth c H locs cells slots Q (F0 m pc ls (as'.reverse ++ .ref (aM 0) :: rest)) := by
  have := lcall (l := l) (e := e) (below := below) (Q := Q) (rest := rest) (pc := pc) (ls := ls) (as' := as') C.2.1 (fun x hx y hy e => C.2.2.1 y hy x hx e.symm) hH.1.2 hH.1.1 hH.2 hl.1 hM hp obM (by omega) hyc hd hn hw hdd hlen hrest hdg (fun H1 locs1 h1 h2 h3 => by
    rw [hf] at h1 ⊢
    have hee : ((some r).map (xc aM)).toList ++ rest = r :: rest := by simp [hr]
    show W p l e room_1 s m #[Value.ref b] below meth c H1 locs1 cells slots Q (F0 m (pc + 3) ls (((some r).map (xc aM)).toList ++ rest))
    rw [hee]
    exact kk H1 locs1 ⟨⟨h2, h1⟩, h3⟩)
  rw [has] at this
  exact this
/-- a truth out of an int -/
theorem lbool (C : LSt p s m meth c b L xs D ca aX aM A0 cells slots) {x : Int32} (d0 : decode cL_law pc = .ok (.ifCond .eq 7, 3)) (d1 : decode cL_law (pc + 3) = .ok (.iconst 1, 1)) (d2 : decode cL_law (pc + 4) = .ok (.goto 4, 3)) (d3 : decode cL_law (pc + 7) = .ok (.iconst 0, 1))
    (kk : W p l e room_1 s m #[Value.ref b] below meth c H locs cells slots Q (F0 m (pc + 8) ls (.int (if x = 0 then 0 else 1) :: rest))) : W p l e room_1 s m #[Value.ref b] below meth c H locs cells slots Q (F0 m pc ls (.int x :: rest)) := by
  obtain ⟨hx, hb, -⟩ := C.1
  refine lv_if_eq (tgt := pc + 7) hx hb d0 (by omega) (fun h => ?_) (fun h => ?_)
  · rw [if_pos h] at kk
    exact lv_iconst (v := 0) hx hb d3 (by decide) kk
  · rw [if_neg h] at kk
    refine lv_iconst (v := 1) hx hb d1 (by decide) ?_
    exact lv_goto (tgt := pc + 8) hx hb d2 (by omega) kk
/-- a long out of two ints -/
theorem llong (C : LSt p s m meth c b L xs D ca aX aM A0 cells slots) (hH : LHp s D ca aX aM A0 σ τ H locs) (hl : LLs b i aX aM ls) (hi : i + 6 ≤ L)
    (d0 : decode cL_law pc = .ok (.i2l, 1)) (d1 : decode cL_law (pc + 1) = .ok (.bipush 32, 2)) (d2 : decode cL_law (pc + 3) = .ok (.lshl, 1)) (e0 : decode cL_law (pc + 4) = .ok (.aload_n 0, 1)) (e1 : decode cL_law (pc + 5) = .ok (.iload_n 3, 1)) (e2 : decode cL_law (pc + 6) = .ok (.iconst 4, 1)) (e3 : decode cL_law (pc + 7) = .ok (.iadd, 1)) (e4 : decode cL_law (pc + 8) = .ok (.iaload, 1)) (d3 : decode cL_law (pc + 9) = .ok (.i2l, 1)) (d4 : decode cL_law (pc + 10) = .ok (.ldc2_w 18, 3)) (d5 : decode cL_law (pc + 13) = .ok (.land, 1)) (d6 : decode cL_law (pc + 14) = .ok (.lor, 1)) {x : Int32}
    (kk : W p l e room_1 s m #[Value.ref b] below meth c H locs cells slots Q (F0 m (pc + 15) ls (.long (xlshl x.toInt64 32 ||| (xs (i + 4)).toInt64 &&& 4294967295) :: rest))) : W p l e room_1 s m #[Value.ref b] below meth c H locs cells slots Q (F0 m pc ls (.int x :: rest)) := by
  obtain ⟨hx, hb, hml, hr, hlocks, hown, hts, -⟩ := C.1
  refine lv_i2l (v := x.toInt64) hx hb d0 rfl ?_
  refine lv_bipush (v := 32) hx hb d1 (by decide) ?_
  refine lv_lshl (v := xlshl x.toInt64 32) hx hb d2 rfl ?_
  refine larg (k := 4) C hH hl hi (by omega) (by decide) e0 e1 e2 e3 e4 ?_
  refine lv_i2l (v := (xs (i + 4)).toInt64) hx hb d3 rfl ?_
  refine lv_ldc2 (own := RL) hx hb hown (hts _ k_L_18) d4 ?_
  refine lv_land hx hb d5 ?_
  exact lv_lor hx hb d6 kk
end LAWSTEP
