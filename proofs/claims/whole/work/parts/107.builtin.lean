/-! the library's own functions, as calls -/
section XBI
variable {p : Program} {l : Launch} {e : Env} {R : Room} {s : State} {m : MethodId} {args : Array Value} {below : List Frame} {meth : Method} {c : Code} {cells slots : Nat} {Q : State → Prop} {w : xD} {ad : Nat → Nat} {ca : Nat → ClassId} {D : va_G} {A0 : Nat → Prop} {nL : Nat} {cc : ByteArray} {own : String} {ret : Option FieldType} {d : Nat}
/-- going on behind an instruction that changes nothing but the stack -/
theorem xgo_on {H : Heap} {locs : List Loc} {ls : Array Slot} {pc : Nat} {L : xL} {st : List Value} {σ : xS} (k : xG p l e R s m args below meth c cells slots Q w ad ca D A0 nL pc L st σ) (hP : va_P D vwCl (xW w ad ca σ) H) (hS : va_S A0 s.heap H locs) (hL : xh ad ls nL L) : W p l e R s m args below meth c H locs cells slots Q (F0 m pc ls (st.map (xc ad))) := k H locs ls hP hS hL
end XBI
def pAbs (as : List Value) (_ : xS) : Prop := ∃ x : Int32, as = [.int x]
def fAbs (as : List Value) (σ : xS) : Option Value × xS := match as with
  | [.int x] => (some (.int (if 0 ≤ x then x else 0 - x)), σ)
  | _ => (none, σ)
theorem pAbs_e {x : Int32} {σ : xS} : pAbs [.int x] σ = True := eq_true ⟨x, rfl⟩
theorem fAbs_e {x : Int32} {σ : xS} : fAbs [.int x] σ = (some (.int (if 0 ≤ x then x else 0 - x)), σ) := rfl
def pMax (as : List Value) (_ : xS) : Prop := ∃ x y : Int32, as = [.int x, .int y]
def fMax (as : List Value) (σ : xS) : Option Value × xS := match as with
  | [.int x, .int y] => (some (.int (if x < y then y else x)), σ)
  | _ => (none, σ)
theorem pMax_e {x y : Int32} {σ : xS} : pMax [.int x, .int y] σ = True := eq_true ⟨x, y, rfl⟩
theorem fMax_e {x y : Int32} {σ : xS} : fMax [.int x, .int y] σ = (some (.int (if x < y then y else x)), σ) := rfl
def pCpy (w : xD) (as : List Value) (_ : xS) : Prop := ∃ (a b : Nat) (sp dp n : Int32), as = [.ref a, .int sp, .ref b, .int dp, .int n] ∧ xar w a 1 ∧ xar w b 1 ∧ 0 ≤ sp ∧ 0 ≤ dp ∧ 0 ≤ n ∧ tn sp + tn n ≤ w.2.2.1 a ∧ tn dp + tn n ≤ w.2.2.1 b
def fCpy (as : List Value) (σ : xS) : Option Value × xS := match as with
  | [.ref a, .int sp, .ref b, .int dp, .int n] => (none, xJs σ b (va_cpy (σ.2 a) (σ.2 b) (tn sp) (tn dp) (tn n)))
  | _ => (none, σ)
theorem pCpy_e {w : xD} {a b : Nat} {sp dp n : Int32} {σ : xS} : pCpy w [.ref a, .int sp, .ref b, .int dp, .int n] σ = (xar w a 1 ∧ xar w b 1 ∧ 0 ≤ sp ∧ 0 ≤ dp ∧ 0 ≤ n ∧ tn sp + tn n ≤ w.2.2.1 a ∧ tn dp + tn n ≤ w.2.2.1 b) := propext ⟨fun ⟨_, _, _, _, _, e, h⟩ => by cases e; exact h, fun h => ⟨_, _, _, _, _, rfl, h⟩⟩
theorem fCpy_e {a b : Nat} {sp dp n : Int32} {σ : xS} : fCpy [.ref a, .int sp, .ref b, .int dp, .int n] σ = (none, xJs σ b (va_cpy (σ.2 a) (σ.2 b) (tn sp) (tn dp) (tn n))) := rfl
set_option maxHeartbeats 4000000 in
set_option maxRecDepth 100000 in
theorem xCk_abs {w : xD} {nL : Nat} {cc : ByteArray} {own : String} {d idx : Nat} (hd : 1 ≤ d) (hw : ∀ x ∈ [Jvm.Cond.methodLink own idx Lib.Math.abs.name, .static Lib.Math.abs.name, .initialized "java/lang/Math", .code Lib.Math.abs.name Lib.Math.abs.code 1 (some .int)], x ∈ xBig) : xCk w nL cc own d idx (true, 1, pAbs, fAbs) := by
  intro p l e R s m args below meth c cells slots Q ad ca D A0 ret C
  obtain ⟨hx, hb, hml, hr, hlocks, hown, hts, hKK, hD, hA, hXX, hnd, hR, hcs⟩ := id C
  rintro pc L as st σ hdg hlen hst ⟨x, rfl⟩ kk H locs ls hP hS hL
  have h4 := xcat4 (ad := ad) hst
  exact va_mabs (own := own) (index := idx) (ls := ls) (rest := st.map (xc ad)) hx hb (by rw [hml, hL.1]) hown (hts _ (hw _ (by simp))) (hts _ (hw _ (by simp))) (hts _ (hw _ (by simp))) (hts _ (hw _ (by simp))) (by omega) (by omega) hcs.1 hcs.2 hdg (xgo_on kk hP hS hL)
set_option maxHeartbeats 4000000 in
set_option maxRecDepth 100000 in
theorem xCk_max {w : xD} {nL : Nat} {cc : ByteArray} {own : String} {d idx : Nat} (hd : 1 ≤ d) (hw : ∀ x ∈ [Jvm.Cond.methodLink own idx Lib.Math.max.name, .static Lib.Math.max.name, .initialized "java/lang/Math", .code Lib.Math.max.name Lib.Math.max.code 2 (some .int)], x ∈ xBig) : xCk w nL cc own d idx (true, 2, pMax, fMax) := by
  intro p l e R s m args below meth c cells slots Q ad ca D A0 ret C
  obtain ⟨hx, hb, hml, hr, hlocks, hown, hts, hKK, hD, hA, hXX, hnd, hR, hcs⟩ := id C
  rintro pc L as st σ hdg hlen hst ⟨x, y, rfl⟩ kk H locs ls hP hS hL
  have h4 := xcat4 (ad := ad) hst
  exact va_mmax (own := own) (index := idx) (ls := ls) (rest := st.map (xc ad)) hx hb (by rw [hml, hL.1]) hown (hts _ (hw _ (by simp))) (hts _ (hw _ (by simp))) (hts _ (hw _ (by simp))) (hts _ (hw _ (by simp))) (by omega) (by omega) hcs.1 hcs.2 hdg (xgo_on kk hP hS hL)
set_option maxHeartbeats 4000000 in
set_option maxRecDepth 100000 in
theorem xCk_cpy {w : xD} {nL : Nat} {cc : ByteArray} {own : String} {d idx : Nat} (hd : 1 ≤ d) (hw : ∀ x ∈ [Jvm.Cond.methodLink own idx arraycopyName, .native arraycopyName, .static arraycopyName, .initialized "java/lang/System"], x ∈ xBig) : xCk w nL cc own d idx (true, 5, pCpy w, fCpy) := by
  intro p l e R s m args below meth c cells slots Q ad ca D A0 ret C
  obtain ⟨hx, hb, hml, hr, hlocks, hown, hts, hKK, hD, hA, hXX, hnd, hR, hcs⟩ := id C
  rintro pc L as st σ hdg hlen hst ⟨a, b, sp, dp, n, rfl, ha, hb1, h1, h2, h3, h5, h6⟩ kk H locs ls hP hS hL
  have h4 := xcat4 (ad := ad) hst
  have hnf : nativeFrameWords "java/lang/System" "arraycopy" 5 ≤ 20 := by decide +kernel
  obtain ⟨q0, hq0, he0⟩ := xW_at (w := w) (ad := ad) (ca := ca) (σ := σ) ha.1
  rw [xE_1 ha.2] at he0
  obtain ⟨q1, hq1, he1⟩ := xW_at (w := w) (ad := ad) (ca := ca) (σ := σ) hb1.1
  rw [xE_1 hb1.2] at he1
  refine va_copyl (own := own) (index := idx) (ls := ls) (rest := st.map (xc ad)) (ty := .long) hx hb (by rw [hml, hL.1]) hown (hts _ (hw _ (by simp))) (hts _ (hw _ (by simp))) (hts _ (hw _ (by simp))) (hts _ (hw _ (by simp))) hKK hP (hD σ) hS q0 q1 1 1 he0 he1 rfl rfl rfl (by rw [Int32.not_lt]; exact h1) (by rw [Int32.not_lt]; exact h2) (by rw [Int32.not_lt]; exact h3) h5 h6 (fun i hi => rfl) (by omega) (by omega) hdg (fun H1 locs1 hP1 hD1 hS1 => ?_)
  rw [xW_set (σ := σ) (σ' := xJs σ b (va_cpy (σ.2 a) (σ.2 b) (tn sp) (tn dp) (tn n))) hnd hq1 (by rw [xE_1 hb1.2, xJs_self]; rfl) (fun a' ha' => rfl) (fun a' ha' => xJs_ne σ _ ha')] at hP1
  exact kk H1 locs1 ls hP1 hS1 hL
