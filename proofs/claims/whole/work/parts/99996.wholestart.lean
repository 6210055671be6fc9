/-! THE LAW, FROM ITS ENTRY -/
set_option maxRecDepth 200000 in
theorem nw_L_7 : ∀ x ∈ [Jvm.Cond.classLink RL 7 RX6, .instantiable RX6 11, .initialized RX6], x ∈ xBig := xBig_of (by decide +kernel)
set_option maxRecDepth 200000 in
theorem nw_L_10 : ∀ x ∈ [Jvm.Cond.classLink RL 10 RX7, .instantiable RX7 50, .initialized RX7], x ∈ xBig := xBig_of (by decide +kernel)
set_option maxRecDepth 200000 in
theorem ci_L_9 : ∀ x ∈ [Jvm.Cond.methodLink RL 9 yX6_init, .instanceMethod yX6_init, .initialized yX6_init.cls, .code yX6_init cX6_init 2 none], x ∈ xBig := xBig_of (by decide +kernel)
set_option maxRecDepth 200000 in
theorem ci_L_12 : ∀ x ∈ [Jvm.Cond.methodLink RL 12 yX7_init, .instanceMethod yX7_init, .initialized yX7_init.cls, .code yX7_init cX7_init 1 none], x ∈ xBig := xBig_of (by decide +kernel)
theorem xW_fst {w : xD} {ad : Nat → Nat} {ca : Nat → ClassId} {σ : xS} : (xW w ad ca σ).map Prod.fst = w.1.map ad := by
  unfold xW
  rw [List.map_map]
  rfl
theorem csplit {s : State} {D : va_G} {A : Nat → Prop} {H : Heap} {locs : List Loc} {w w2 : xD} {ad ad2 : Nat → Nat} {ca : Nat → ClassId} {σ τ : xS} (hH : cH s D A (xW w ad ca σ ++ xW w2 ad2 ca τ) H locs) : ((va_P D vwCl (xW w ad ca σ) H ∧ va_P D vwCl (xW w2 ad2 ca τ) H) ∧ va_S A s.heap H locs) ∧ (∀ σ, va_D A (xW w ad ca σ)) ∧ (∀ τ, va_D A (xW w2 ad2 ca τ)) ∧ (∀ a ∈ w.1, ∀ b ∈ w2.1, ad a ≠ ad2 b) := by
  obtain ⟨hP, hD, hS⟩ := hH
  have h1 := va_D_iff.mp hD
  rw [List.map_append, xW_fst, xW_fst] at h1
  obtain ⟨hn, ha⟩ := h1
  rw [List.nodup_append] at hn
  refine ⟨⟨⟨fun k q hq => ?_, fun k q hq => ?_⟩, hS⟩, fun σ' => va_D_iff.mpr ?_, fun τ' => va_D_iff.mpr ?_, fun a h1 b h2 => ?_⟩
  · exact hP k q (by rw [List.getElem?_append_left (List.getElem?_eq_some_iff.mp hq).1]; exact hq)
  · refine hP ((xW w ad ca σ).length + k) q ?_
    rw [List.getElem?_append_right (by omega), Nat.add_sub_cancel_left]
    exact hq
  · rw [xW_fst]
    exact ⟨hn.1, fun a h => ha a (List.mem_append_left _ h)⟩
  · rw [xW_fst]
    exact ⟨hn.2.1, fun a h => ha a (List.mem_append_right _ h)⟩
  · exact hn.2.2 _ (List.mem_map_of_mem h1) _ (List.mem_map_of_mem h2)
set_option maxHeartbeats 1000000 in
set_option maxRecDepth 100000 in
theorem whole_start {p : Program} {e : Env} {s : State} {m : MethodId} {below : List Frame} {meth : Method} {c : Code} (l : Launch) (hflags : l.flags = flags0) {b L : Nat} {xs : Nat → Int32} (hL : L ≤ 3072) (C0 : lw_At p s m meth c b L xs) : W p l e room_1 s m #[Value.ref b] below meth c s.heap [] 0 0 (lw_Z below #[Value.ref b] s) (entryFrame m ([Value.ref b] : List Value).toArray 4) := by
  obtain ⟨hx, hb, hr, hml, hown, hts, hX, hbl, hlocks, hgv⟩ := id C0
  have hbig : ∀ w ∈ xBig, w.before #[Value.ref b] s = true := fun w hw => hts w (xBig_tbl hw)
  obtain ⟨A0, hAe⟩ : ∃ A : Nat → Prop, A = fun q => s.heap.size ≤ q := ⟨_, rfl⟩
  have hA : ∀ q : Nat, s.heap.size ≤ q → A0 q := fun q h => by rw [hAe]; exact h
  have hA0 : ∀ q : Nat, A0 q → s.heap.size ≤ q := fun q h => by rw [hAe] at h; exact h
  have hAn : ∀ a : Nat, a < s.heap.size → ¬ A0 a := fun a h q => absurd (hA0 a q) (Nat.not_le.mpr h)
  clear hAe
  obtain ⟨D, ca, hK⟩ := law_K hts
  have hF := law_F hts
  obtain ⟨aS, hXX⟩ := law_S hts hgv hAn
  have C : cCx p room_1 s m #[Value.ref b] meth c cL_law RL 4 D ca A0 := ⟨⟨hx, hb, hml, hown, hbig⟩, hK, hA, hF⟩
  have hH : cH s D A0 [] s.heap [] := ⟨fun k q h => by simp at h, ⟨fun i j p q h => by simp at h, fun k q h => by simp at h⟩, va_S.rf⟩
  have hl := lv_entry ([.ref b]) (n := 4) (Nat.le_of_ble_eq_true rfl)
  rw [lg_entry_eq]
  generalize (lg_sl ([.ref b]) ++ List.replicate (4 - (lg_sl ([.ref b])).length) Slot.unset).toArray = ls at hl ⊢
  have hl : lv_has ls 4 [(0, .ref b)] := hl
  refine cnew (ci := 6) C hH (by decide) (nw_L_7 _ (List.mem_of_getElem? (i := 0) rfl)) (nw_L_7 _ (List.mem_of_getElem? (i := 1) rfl)) (nw_L_7 _ (List.mem_of_getElem? (i := 2) rfl)) (Nat.le_of_ble_eq_true rfl) (Nat.le_of_ble_eq_true rfl) dL_law_0 (fun q1 H hH => ?_)
  refine lv_dup hx hb dL_law_3 rfl ?_
  refine cinit (n := 0) (As := []) (mX6_init aS) C hH ci_L_9 rfl ⟨by decide, by decide, by decide +kernel⟩ rfl ⟨Nat.le_of_ble_eq_true rfl, Nat.le_of_ble_eq_true rfl⟩ ⟨Nat.le_of_ble_eq_true rfl, Nat.le_of_ble_eq_true rfl⟩ hl.1 (Nat.le_of_ble_eq_true rfl) dL_law_4 (fun H locs w1 hp1 hH => ?_)
  refine lv_astore_n (lv' := [(1, .ref q1), (0, .ref b)]) hx hb dL_law_7 rfl hl (by decide) rfl (fun ls hl => ?_)
  refine cnew (ci := 7) C hH (by decide) (nw_L_10 _ (List.mem_of_getElem? (i := 0) rfl)) (nw_L_10 _ (List.mem_of_getElem? (i := 1) rfl)) (nw_L_10 _ (List.mem_of_getElem? (i := 2) rfl)) (Nat.le_of_ble_eq_true rfl) (Nat.le_of_ble_eq_true rfl) dL_law_8 (fun q2 H hH => ?_)
  refine lv_dup hx hb dL_law_11 rfl ?_
  refine cinit (n := 0) (As := []) (mX7_init aS) C hH ci_L_12 rfl ⟨by decide, by decide, by decide +kernel⟩ rfl ⟨Nat.le_of_ble_eq_true rfl, Nat.le_of_ble_eq_true rfl⟩ ⟨Nat.le_of_ble_eq_true rfl, Nat.le_of_ble_eq_true rfl⟩ hl.1 (Nat.le_of_ble_eq_true rfl) dL_law_12 (fun H locs w2 hp2 hH => ?_)
  refine lv_astore_n (lv' := [(2, .ref q2), (1, .ref q1), (0, .ref b)]) hx hb dL_law_15 rfl hl (by decide) rfl (fun ls hl => ?_)
  refine lv_iconst (v := nI 0) hx hb dL_law_16 (by decide) ?_
  refine lv_istore_n (lv' := [(3, .int (nI 0)), (2, .ref q2), (1, .ref q1), (0, .ref b)]) hx hb dL_law_17 rfl hl (by decide) rfl (fun ls hl => ?_)
  obtain ⟨aX, hX9, hX0, rfl⟩ := hp1
  obtain ⟨aM, hM9, hM0, rfl⟩ := hp2
  obtain ⟨h1, h2, h3, h4⟩ := csplit hH
  subst hX0
  subst hM0
  have CX : ∀ {w : xD} {ad : Nat → Nat} {cells slots : Nat}, (∀ σ, va_D A0 (xW w ad ca σ)) → xX ad A0 s s.heap → w.1.Nodup → cells ≤ 600000 → slots ≤ 7302250 → xCx p room_1 s m #[Value.ref b] meth c cells slots cL_law RL ret 4 w ad ca D A0 100 := fun g1 g2 g3 g4 g5 => ⟨hx, hb, hml, hr, hlocks, hown, hbig, hK, g1, hA, g2, g3, ⟨Nat.le_of_ble_eq_true rfl, Nat.le_of_ble_eq_true rfl⟩, g4, g5⟩
  have hLS : LSt p s m meth c b L xs D ca aX aM A0 (0 + 1 + 100 + 1 + 36) (0 + xNf 6 + 2853 + xNf 7 + 2978) := ⟨CX h2 (hXX aX hX9) WX_nd (Nat.le_of_ble_eq_true rfl) (Nat.le_of_ble_eq_true rfl), CX h3 (hXX aM hM9) WM_nd (Nat.le_of_ble_eq_true rfl) (Nat.le_of_ble_eq_true rfl), h4, ⟨hX, hbl, hAn b hbl⟩, hL, Nat.le_of_ble_eq_true rfl, Nat.le_of_ble_eq_true rfl⟩
  exact law_loop hLS hA0 (L + 7) 0 (Nat.zero_le _) (by omega) RR0 h1 (lv_sub hl [0, 3, 2, 1] rfl)
