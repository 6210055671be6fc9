/-! constructors: rows, ends, orders -/
theorem arrV_congr {cI : ClassId} {n : Nat} {f g : Nat → Value} (h : ∀ i, i < n → f i = g i) : arrV cI n f = arrV cI n g := by
  unfold arrV
  congr 2
  funext j
  exact h j.1 j.2
theorem va_D_iff {A : Nat → Prop} {ws : va_W} : va_D A ws ↔ (ws.map Prod.fst).Nodup ∧ ∀ a ∈ ws.map Prod.fst, A a := by
  constructor
  · intro h
    refine ⟨List.pairwise_iff_getElem.mpr fun i j hi hj hij hxy => ?_, fun a ha => ?_⟩
    · rw [List.length_map] at hi hj
      rw [List.getElem_map, List.getElem_map] at hxy
      have := h.1 i j ws[i] ws[j] (List.getElem?_eq_getElem hi) (List.getElem?_eq_getElem hj) hxy
      omega
    · obtain ⟨q, hq, rfl⟩ := List.mem_map.mp ha
      obtain ⟨k, hk⟩ := List.getElem?_of_mem hq
      exact h.2 k q hk
  · intro h
    refine ⟨fun i j x y hi hj hxy => ?_, fun k q hk => h.2 _ (List.mem_map.mpr ⟨q, List.mem_of_getElem? hk, rfl⟩)⟩
    obtain ⟨h1, e1⟩ := List.getElem?_eq_some_iff.mp hi
    obtain ⟨h2, e2⟩ := List.getElem?_eq_some_iff.mp hj
    have hp := List.pairwise_iff_getElem.mp h.1
    rcases Nat.lt_trichotomy i j with q | q | q
    · refine absurd ?_ (hp i j (by simpa using h1) (by simpa using h2) q)
      rw [List.getElem_map, List.getElem_map, e1, e2]
      exact hxy
    · exact q
    · refine absurd ?_ (hp j i (by simpa using h2) (by simpa using h1) q)
      rw [List.getElem_map, List.getElem_map, e1, e2]
      exact hxy.symm
theorem cH.perm {s : State} {D : va_G} {A : Nat → Prop} {ws ws' : va_W} {H : Heap} {locs : List Loc} (hH : cH s D A ws H locs) (h : ws.Perm ws') : cH s D A ws' H locs := by
  refine ⟨fun k q hq => ?_, ?_, hH.2.2⟩
  · obtain ⟨k', hk'⟩ := List.getElem?_of_mem (h.mem_iff.mpr (List.mem_of_getElem? hq))
    exact hH.1 k' q hk'
  · have h1 := va_D_iff.mp hH.2.1
    have hp := h.map Prod.fst
    exact va_D_iff.mpr ⟨hp.nodup_iff.mp h1.1, fun a ha => h1.2 a (hp.mem_iff.mpr ha)⟩
theorem cH.row {s : State} {D : va_G} {A : Nat → Prop} {ws : va_W} {H : Heap} {locs : List Loc} {k a n : Nat} {cA : ClassId} {f g : Nat → Option Nat} (hH : cH s D A ws H locs) (hk : ws[k]? = some (a, .inl (cA, n, .inr (.inr (.inr (.inr f)))))) (h : ∀ i, i < n → f i = g i) : cH s D A (ws.set k (a, .inl (cA, n, .inr (.inr (.inr (.inr g)))))) H locs := by
  refine ⟨hH.1.set hH.2.1 hk ?_ (fun _ _ => rfl), hH.2.1.set hk, hH.2.2⟩
  have h1 : H[a]? = some (arrV cA n (fun j => va_rf (f j))) := hH.1 k _ hk
  show H[a]? = some (arrV cA n (fun j => va_rf (g j)))
  rw [h1, arrV_congr (f := fun j => va_rf (f j)) (g := fun j => va_rf (g j)) (fun i hi => by show va_rf (f i) = va_rf (g i); rw [h i hi])]
theorem cH.rowI {s : State} {D : va_G} {A : Nat → Prop} {ws : va_W} {H : Heap} {locs : List Loc} {k a n : Nat} {cA : ClassId} {f g : Nat → Int32} (hH : cH s D A ws H locs) (hk : ws[k]? = some (a, .inl (cA, n, .inl f))) (h : ∀ i, i < n → f i = g i) : cH s D A (ws.set k (a, .inl (cA, n, .inl g))) H locs := by
  refine ⟨hH.1.set hH.2.1 hk ?_ (fun _ _ => rfl), hH.2.1.set hk, hH.2.2⟩
  have h1 : H[a]? = some (arrV cA n (fun j => .int (f j))) := hH.1 k _ hk
  show H[a]? = some (arrV cA n (fun j => .int (g j)))
  rw [h1, arrV_congr (f := fun j => Value.int (f j)) (g := fun j => Value.int (g j)) (fun i hi => by show Value.int (f i) = Value.int (g i); rw [h i hi])]
abbrev rI (a : Nat) (ca : Nat → ClassId) (n : Nat) (f : Nat → Int32) : Nat × va_E := (a, .inl (ca 0, n, .inl f))
abbrev rJ (a : Nat) (ca : Nat → ClassId) (n : Nat) (f : Nat → Int64) : Nat × va_E := (a, .inl (ca 1, n, .inr (.inl f)))
abbrev rQ (a : Nat) (ca : Nat → ClassId) (k n : Nat) (f : Nat → Option Nat) : Nat × va_E := (a, .inl (ca k, n, .inr (.inr (.inr (.inr f)))))
abbrev oB (a ci : Nat) (fs : List Value) : Nat × va_E := (a, .inr (ci, fs))
theorem gat {α : Type} (o : List α) (x : α) (y : List α) : (o ++ x :: y)[o.length]? = some x := by simp
theorem fk_in {own : String} {fld : Nat → Option (Nat × Nat × Nat)} (h : xFt own fld) {idx ci f t : Nat} (hf : fld idx = some (ci, f, t)) (ht : t < 4) : Jvm.Cond.fieldLink own idx (xTT ci f).1 (xTT ci f).2.1 (xTT ci f).2.2.1 ∈ xBig := (h idx ci f t hf).2.1 ht
theorem nI_clo {j : Nat} (h : j < 2000) : (nI j).toNatClampNeg = j := nI_clamp (by omega)
section CTOR2
variable {p : Program} {l : Launch} {e : Env} {R : Room} {s : State} {m : MethodId} {args : Array Value} {below : List Frame} {meth : Method} {c : Code} {cells slots : Nat} {Q : State → Prop} {cc : ByteArray} {own : String} {nL : Nat} {D : va_G} {ca : Nat → ClassId} {A : Nat → Prop} {H : Heap} {locs : List Loc} {ls : Array Slot} {pc : Nat} {rest : List Value} {ws : va_W}
theorem cret {post : va_W → Prop} {w1 : va_W} {mc ms : Nat} (C : cCx p R s m args meth c cc own nL D ca A) (hr : meth.sig.returnType = none) (hlocks : meth.locks = false) (hH : cH s D A w1 H locs) (hpo : post w1) (hc : cells ≤ mc) (hs : slots ≤ ms) (hdg : decode cc pc = .ok (.return_, 1)) : W p l e R s m args below meth c H locs cells slots (MQ below (iQ D post A) args s mc ms A) (F0 m pc ls []) := by
  obtain ⟨⟨hx, hb, hml, hown, hts⟩, hK, hA, hF⟩ := C
  obtain ⟨hP, hD, hS⟩ := hH
  refine W.widen (k := mc) (n := ms) hc hs ?_
  exact W.vret hx hb hr (fun t ht hW => ⟨⟨rfl, w1, hpo, by rw [ht]; exact hP, hD⟩, hS.F ht⟩) hS.2.2 hdg
/-- an object into a row -/
theorem cstq {q0 t0 qk ci a n v j : Nat} {cA : ClassId} {vs : List Value} {f : Nat → Option Nat} (C : cCx p R s m args meth c cc own nL D ca A) (hH : cH s D A ws H locs) (ha : ws[q0]? = some (a, .inl (cA, n, .inr (.inr (.inr (.inr f)))))) (ht : (xtys ca)[t0]? = some (cA, .object (xNm ci))) (hv : ws[qk]? = some (v, .inr (ci, vs))) (hci : ci < 8) (hj : j < n) (hn : n ≤ 1000) (hdg : decode cc pc = .ok (.aastore, 1))
    (kk : ∀ (H1 : Heap) (locs1 : List Loc), cH s D A (ws.set q0 (a, .inl (cA, n, .inr (.inr (.inr (.inr (va_up f j (some v)))))))) H1 locs1 → W p l e R s m args below meth c H1 locs1 cells slots Q (F0 m (pc + 1) ls rest)) : W p l e R s m args below meth c H locs cells slots Q (F0 m pc ls (.ref v :: .int (nI j) :: .ref a :: rest)) := by
  obtain ⟨⟨hx, hb, hml, hown, hts⟩, hK, hA, hF⟩ := C
  obtain ⟨hP, hD, hS⟩ := hH
  refine va_astq hx hb hK hP hD hS q0 t0 qk ci (r := (xNm ci, xTT ci, xNf ci)) ha ht hv (xcl hci) (vp_in_nI hj (by omega)) hdg (fun H1 locs1 h1 h2 h3 => ?_)
  rw [nI_clo (by omega)] at h1 h2
  exact kk H1 locs1 ⟨h1, h2, h3⟩
theorem clen {q0 t0 a : Nat} {cA : ClassId} {x : vp_A} {ty : FieldType} {v : Int32} (C : cCx p R s m args meth c cc own nL D ca A) (hH : cH s D A ws H locs) (ha : ws[q0]? = some (a, .inl (cA, x))) (ht : (xtys ca)[t0]? = some (cA, ty)) (hv : Int32.ofNat x.1 = v) (hdg : decode cc pc = .ok (.arraylength, 1))
    (kk : W p l e R s m args below meth c H locs cells slots Q (F0 m (pc + 1) ls (.int v :: rest))) : W p l e R s m args below meth c H locs cells slots Q (F0 m pc ls (.ref a :: rest)) := by
  obtain ⟨⟨hx, hb, hml, hown, hts⟩, hK, hA, hF⟩ := C
  exact va_alen hx hb hK hH.1 q0 t0 ha ht hv hdg kk
/-- an int into a row -/
theorem cist {q0 a n j : Nat} {f : Nat → Int32} {x : Int32} (C : cCx p R s m args meth c cc own nL D ca A) (hH : cH s D A ws H locs) (ha : ws[q0]? = some (a, .inl (ca 0, n, .inl f))) (hj : j < n) (hn : n ≤ 1000) (hdg : decode cc pc = .ok (.iastore, 1))
    (kk : ∀ (H1 : Heap) (locs1 : List Loc), cH s D A (ws.set q0 (a, .inl (ca 0, n, .inl (upd f j x)))) H1 locs1 → W p l e R s m args below meth c H1 locs1 cells slots Q (F0 m (pc + 1) ls rest)) : W p l e R s m args below meth c H locs cells slots Q (F0 m pc ls (.int x :: .int (nI j) :: .ref a :: rest)) := by
  obtain ⟨⟨hx, hb, hml, hown, hts⟩, hK, hA, hF⟩ := C
  obtain ⟨hP, hD, hS⟩ := hH
  refine va_iast hx hb hK hP hD hS q0 0 ha rfl (vp_in_nI hj (by omega)) hdg (fun H1 locs1 h1 h2 h3 => ?_)
  rw [nI_clo (by omega)] at h1 h2
  exact kk H1 locs1 ⟨h1, h2, h3⟩
end CTOR2
set_option maxRecDepth 200000 in
theorem arI_in : Jvm.Cond.arrayClass .int ∈ xBig := xBig_of (ws := [Jvm.Cond.arrayClass .int]) (by decide +kernel) _ List.mem_cons_self
set_option maxRecDepth 200000 in
theorem arJ_in : Jvm.Cond.arrayClass .long ∈ xBig := xBig_of (ws := [Jvm.Cond.arrayClass .long]) (by decide +kernel) _ List.mem_cons_self
