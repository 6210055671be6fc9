section XSND
variable {p : Program} {l : Launch} {e : Env} {R : Room} {s : State} {m : MethodId} {args : Array Value} {below : List Frame} {meth : Method} {c : Code} {cells slots : Nat} {Q : State → Prop} {w : xD} {ad : Nat → Nat} {ca : Nat → ClassId} {D : va_G} {A0 : Nat → Prop} {nL : Nat} {cc : ByteArray} {own : String} {ret : Option FieldType} {d : Nat}
variable {fld : Nat → Option (Nat × Nat × Nat)} {cal : Nat → Option xCall} {ks : Nat → Option Value} {gs : Nat → Option Nat} {ro : Nat → Option (Nat × (Nat → Int32))} {rb : Nat}
set_option maxHeartbeats 4000000 in
set_option maxRecDepth 100000 in
theorem xst_ok (C : xCx p R s m args meth c cells slots cc own ret nL w ad ca D A0 d) (hF : xFt own fld) (hKs : xKt own ks ad s args) (hG : xGt own gs ad A0 s args) (hRo : xRo ro ad A0 s)
    (hCal : ∀ (idx : Nat) (b : Bool) (n : Nat) (pre : List Value → xS → Prop) (fn : List Value → xS → Option Value × xS), cal idx = some (b, n, pre, fn) → ∀ (pc : Nat) (L : xL) (as st : List Value) (σ : xS), decode cc pc = .ok (if b = true then .invokestatic idx else .invokevirtual idx, 3) → as.length = n → st.length ≤ 4 → pre as σ → xG p l e R s m args below meth c cells slots Q w ad ca D A0 nL (pc + 3) L ((fn as σ).1.toList ++ st) (fn as σ).2 → xG p l e R s m args below meth c cells slots Q w ad ca D A0 nL pc L (as.reverse ++ st) σ)
    {K : xK} {Rt : Option Value → xS → Prop} (hK : ∀ pc L st σ, K pc L st σ → xG p l e R s m args below meth c cells slots Q w ad ca D A0 nL pc L st σ) (hRt : ∀ (r : Option Value) (σ : xS) (pc : Nat) (L : xL), Rt r σ → xRi cc rb pc r → xG p l e R s m args below meth c cells slots Q w ad ca D A0 nL pc L r.toList σ)
    {i : Instr} {len pc : Nat} {L : xL} {st : List Value} {σ : xS} (hd : decode cc pc = .ok (i, len)) (h : xst w nL fld cal ks gs ro rb i len pc K Rt L st σ) : xG p l e R s m args below meth c cells slots Q w ad ca D A0 nL pc L st σ := by
  obtain ⟨hx, hb, hml, hr, hlocks, hown, hts, hKK, hD, hA, hXX, hnd, hR, hcs⟩ := C
  cases i
  case iconst n =>
    obtain ⟨rfl, h⟩ := h
    intro H locs ls hP hS hL
    exact lv_iconst hx hb hd rfl (hK _ _ _ _ h H locs ls hP hS hL)
  case bipush n =>
    obtain ⟨rfl, hn, h⟩ := h
    intro H locs ls hP hS hL
    refine lv_bipush hx hb hd (v := Int32.ofInt n) ?_ (hK _ _ _ _ h H locs ls hP hS hL)
    rw [← Int32.toInt_inj, xofI (by omega) (by omega), Int8.toInt_toInt32, Int8.toInt_ofInt, show Int8.size = 256 from rfl]
    simp only [Int.bmod]
    omega
  case sipush n =>
    obtain ⟨rfl, hn, h⟩ := h
    intro H locs ls hP hS hL
    refine lv_sipush hx hb hd (v := Int32.ofInt n) ?_ (hK _ _ _ _ h H locs ls hP hS hL)
    rw [← Int32.toInt_inj, xofI (by omega) (by omega), Int16.toInt_toInt32, Int16.toInt_ofInt, show Int16.size = 65536 from rfl]
    simp only [Int.bmod]
    omega
  case lconst n =>
    obtain ⟨rfl, h⟩ := h
    intro H locs ls hP hS hL
    refine lv_lconst hx hb hd (v := if n = 0 then 0 else 1) ?_ (hK _ _ _ _ h H locs ls hP hS hL)
    match n with
    | 0 => rfl
    | 1 => rfl
  case aconst_null =>
    obtain ⟨rfl, h⟩ := h
    intro H locs ls hP hS hL
    exact lv_null hx hb hd (hK _ _ _ _ h H locs ls hP hS hL)
  case ldc idx =>
    obtain ⟨rfl, h⟩ := h
    split at h
    · rename_i v hv
      have hk := hKs idx _ hv
      intro H locs ls hP hS hL
      exact lv_ldc hx hb hown hk hd (hK _ _ _ _ h H locs ls hP hS hL)
    · rename_i a hv
      have hk := hKs idx _ hv
      obtain ⟨tx, hz⟩ := hk
      intro H locs ls hP hS hL
      exact va_ldcS hx hb hown hz hd (hK _ _ _ _ h H locs ls hP hS hL)
    · exact h.elim
  case ldc_w idx =>
    obtain ⟨rfl, h⟩ := h
    split at h
    · rename_i v hv
      have hk := hKs idx _ hv
      intro H locs ls hP hS hL
      exact lv_ldcw hx hb hown hk hd (hK _ _ _ _ h H locs ls hP hS hL)
    · exact h.elim
  case ldc2_w idx =>
    obtain ⟨rfl, h⟩ := h
    split at h
    · rename_i v hv
      have hk := hKs idx _ hv
      intro H locs ls hP hS hL
      exact lv_ldc2 hx hb hown hk hd (hK _ _ _ _ h H locs ls hP hS hL)
    · exact h.elim
  case iload_n k =>
    obtain ⟨rfl, h⟩ := h
    obtain ⟨v, hv, h⟩ := xld_at h
    split at h
    · intro H locs ls hP hS hL
      exact lv_iload_n hx hb hd (i := xf4 k) rfl (hL.2.2 _ _ hv) (hK _ _ _ _ h H locs ls hP hS hL)
    · exact h.elim
  case iload k =>
    obtain ⟨rfl, h⟩ := h
    obtain ⟨v, hv, h⟩ := xld_at h
    split at h
    · intro H locs ls hP hS hL
      exact lv_iload hx hb hd (hL.2.2 _ _ hv) (hK _ _ _ _ h H locs ls hP hS hL)
    · exact h.elim
  case lload_n k =>
    obtain ⟨rfl, h⟩ := h
    obtain ⟨v, hv, h⟩ := xld_at h
    split at h
    · intro H locs ls hP hS hL
      exact lv_lload_n hx hb hd (i := xf4 k) rfl (hL.2.2 _ _ hv) (hK _ _ _ _ h H locs ls hP hS hL)
    · exact h.elim
  case lload k =>
    obtain ⟨rfl, h⟩ := h
    obtain ⟨v, hv, h⟩ := xld_at h
    split at h
    · intro H locs ls hP hS hL
      exact lv_lload hx hb hd (hL.2.2 _ _ hv) (hK _ _ _ _ h H locs ls hP hS hL)
    · exact h.elim
  case aload_n k =>
    obtain ⟨rfl, h⟩ := h
    obtain ⟨v, hv, h⟩ := xld_at h
    split at h
    · intro H locs ls hP hS hL
      exact lv_aload_n hx hb hd (i := xf4 k) rfl (hL.2.2 _ _ hv) (hK _ _ _ _ h H locs ls hP hS hL)
    · intro H locs ls hP hS hL
      exact lv_aload_nN hx hb hd (i := xf4 k) rfl (hL.2.2 _ _ hv) (hK _ _ _ _ h H locs ls hP hS hL)
    · exact h.elim
  case aload k =>
    obtain ⟨rfl, h⟩ := h
    obtain ⟨v, hv, h⟩ := xld_at h
    split at h
    · intro H locs ls hP hS hL
      exact lv_aload hx hb hd (hL.2.2 _ _ hv) (hK _ _ _ _ h H locs ls hP hS hL)
    · intro H locs ls hP hS hL
      exact lv_aloadN hx hb hd (hL.2.2 _ _ hv) (hK _ _ _ _ h H locs ls hP hS hL)
    · exact h.elim
  case istore_n k =>
    obtain ⟨rfl, hk, h⟩ := h
    split at h
    · intro H locs ls hP hS hL
      exact lv_istore_n hx hb hd (i := xf4 k) rfl (xh_has hL) hk rfl (fun ls' h' => hK _ _ _ _ h H locs ls' hP hS (xh_s1 h'))
    · exact h.elim
  case istore k =>
    obtain ⟨rfl, hk, h⟩ := h
    split at h
    · intro H locs ls hP hS hL
      exact lv_istore hx hb hd (xh_has hL) hk rfl (fun ls' h' => hK _ _ _ _ h H locs ls' hP hS (xh_s1 h'))
    · exact h.elim
  case lstore_n k =>
    obtain ⟨rfl, hk, h⟩ := h
    split at h
    · intro H locs ls hP hS hL
      exact lv_lstore_n hx hb hd (i := xf4 k) rfl (xh_has hL) hk rfl (fun ls' h' => hK _ _ _ _ h H locs ls' hP hS (xh_s2 h'))
    · exact h.elim
  case lstore k =>
    obtain ⟨rfl, hk, h⟩ := h
    split at h
    · intro H locs ls hP hS hL
      exact lv_lstore hx hb hd (xh_has hL) hk rfl (fun ls' h' => hK _ _ _ _ h H locs ls' hP hS (xh_s2 h'))
    · exact h.elim
  case astore_n k =>
    obtain ⟨rfl, hk, h⟩ := h
    split at h
    · intro H locs ls hP hS hL
      exact lv_astore_n hx hb hd (i := xf4 k) rfl (xh_has hL) hk rfl (fun ls' h' => hK _ _ _ _ h H locs ls' hP hS (xh_s1 h'))
    · intro H locs ls hP hS hL
      exact lv_astore_nN hx hb hd (i := xf4 k) rfl (xh_has hL) hk rfl (fun ls' h' => hK _ _ _ _ h H locs ls' hP hS (xh_s1 h'))
    · exact h.elim
  case astore k =>
    obtain ⟨rfl, hk, h⟩ := h
    split at h
    · intro H locs ls hP hS hL
      exact lv_astore hx hb hd (xh_has hL) hk rfl (fun ls' h' => hK _ _ _ _ h H locs ls' hP hS (xh_s1 h'))
    · intro H locs ls hP hS hL
      exact lv_astoreN hx hb hd (xh_has hL) hk rfl (fun ls' h' => hK _ _ _ _ h H locs ls' hP hS (xh_s1 h'))
    · exact h.elim
  case iinc k n =>
    obtain ⟨rfl, hk, h⟩ := h
    obtain ⟨v, hv, h⟩ := xld_at h
    split at h
    · intro H locs ls hP hS hL
      rename_i x
      obtain ⟨j, hj⟩ := List.getElem?_of_mem ((xpr_mem (ad := ad) (q := (k, xc ad (.int x)))).mpr ⟨_, hv, rfl⟩)
      exact lv_iinc hx hb hd (xh_has hL) (k := j) (x := x) hj rfl hk rfl (fun ls' h' => hK _ _ _ _ h H locs ls' hP hS (xh_s1 h'))
    · exact h.elim
  case iadd =>
    obtain ⟨rfl, h⟩ := h
    split at h
    · intro H locs ls hP hS hL
      exact lv_iadd hx hb hd (hK _ _ _ _ h H locs ls hP hS hL)
    · exact h.elim
  case isub =>
    obtain ⟨rfl, h⟩ := h
    split at h
    · intro H locs ls hP hS hL
      exact lv_isub hx hb hd (hK _ _ _ _ h H locs ls hP hS hL)
    · exact h.elim
  case imul =>
    obtain ⟨rfl, h⟩ := h
    split at h
    · intro H locs ls hP hS hL
      exact lv_imul hx hb hd (hK _ _ _ _ h H locs ls hP hS hL)
    · exact h.elim
  case iand =>
    obtain ⟨rfl, h⟩ := h
    split at h
    · intro H locs ls hP hS hL
      exact lv_iand hx hb hd (hK _ _ _ _ h H locs ls hP hS hL)
    · exact h.elim
  case ior =>
    obtain ⟨rfl, h⟩ := h
    split at h
    · intro H locs ls hP hS hL
      exact lv_ior hx hb hd (hK _ _ _ _ h H locs ls hP hS hL)
    · exact h.elim
  case ixor =>
    obtain ⟨rfl, h⟩ := h
    split at h
    · intro H locs ls hP hS hL
      exact lv_ixor hx hb hd (hK _ _ _ _ h H locs ls hP hS hL)
    · exact h.elim
  case ineg =>
    obtain ⟨rfl, h⟩ := h
    split at h
    · intro H locs ls hP hS hL
      exact lv_ineg hx hb hd (hK _ _ _ _ h H locs ls hP hS hL)
    · exact h.elim
  case ishl =>
    obtain ⟨rfl, h⟩ := h
    split at h
    · intro H locs ls hP hS hL
      exact lv_ishl hx hb hd (hK _ _ _ _ h H locs ls hP hS hL)
    · exact h.elim
  case ishr =>
    obtain ⟨rfl, h⟩ := h
    split at h
    · intro H locs ls hP hS hL
      exact lv_ishr hx hb hd (hK _ _ _ _ h H locs ls hP hS hL)
    · exact h.elim
  case ladd =>
    obtain ⟨rfl, h⟩ := h
    split at h
    · intro H locs ls hP hS hL
      exact lv_ladd hx hb hd (hK _ _ _ _ h H locs ls hP hS hL)
    · exact h.elim
  case lsub =>
    obtain ⟨rfl, h⟩ := h
    split at h
    · intro H locs ls hP hS hL
      exact lv_lsub hx hb hd (hK _ _ _ _ h H locs ls hP hS hL)
    · exact h.elim
  case lmul =>
    obtain ⟨rfl, h⟩ := h
    split at h
    · intro H locs ls hP hS hL
      exact lv_lmul hx hb hd (hK _ _ _ _ h H locs ls hP hS hL)
    · exact h.elim
  case land =>
    obtain ⟨rfl, h⟩ := h
    split at h
    · intro H locs ls hP hS hL
      exact lv_land hx hb hd (hK _ _ _ _ h H locs ls hP hS hL)
    · exact h.elim
  case lor =>
    obtain ⟨rfl, h⟩ := h
    split at h
    · intro H locs ls hP hS hL
      exact lv_lor hx hb hd (hK _ _ _ _ h H locs ls hP hS hL)
    · exact h.elim
  case lxor =>
    obtain ⟨rfl, h⟩ := h
    split at h
    · intro H locs ls hP hS hL
      exact lv_lxor hx hb hd (hK _ _ _ _ h H locs ls hP hS hL)
    · exact h.elim
  case iushr =>
    obtain ⟨rfl, h⟩ := h
    split at h
    · intro H locs ls hP hS hL
      exact lv_iushr hx hb hd rfl (hK _ _ _ _ h H locs ls hP hS hL)
    · exact h.elim
  case lshl =>
    obtain ⟨rfl, h⟩ := h
    split at h
    · intro H locs ls hP hS hL
      exact lv_lshl hx hb hd rfl (hK _ _ _ _ h H locs ls hP hS hL)
    · exact h.elim
  case lushr =>
    obtain ⟨rfl, h⟩ := h
    split at h
    · intro H locs ls hP hS hL
      exact lv_lushr hx hb hd rfl (hK _ _ _ _ h H locs ls hP hS hL)
    · exact h.elim
  case i2l =>
    obtain ⟨rfl, h⟩ := h
    split at h
    · intro H locs ls hP hS hL
      exact lv_i2l hx hb hd rfl (hK _ _ _ _ h H locs ls hP hS hL)
    · exact h.elim
  case l2i =>
    obtain ⟨rfl, h⟩ := h
    split at h
    · intro H locs ls hP hS hL
      exact lv_l2i hx hb hd rfl (hK _ _ _ _ h H locs ls hP hS hL)
    · exact h.elim
  case i2b =>
    obtain ⟨rfl, h⟩ := h
    split at h
    · intro H locs ls hP hS hL
      exact lv_i2b hx hb hd rfl (hK _ _ _ _ h H locs ls hP hS hL)
    · exact h.elim
  case i2s =>
    obtain ⟨rfl, h⟩ := h
    split at h
    · intro H locs ls hP hS hL
      exact lv_i2s hx hb hd rfl (hK _ _ _ _ h H locs ls hP hS hL)
    · exact h.elim
  case idiv =>
    obtain ⟨rfl, h⟩ := h
    split at h
    · obtain ⟨hne, h⟩ := h
      intro H locs ls hP hS hL
      exact lv_idiv hx hb hd hne (hK _ _ _ _ h H locs ls hP hS hL)
    · exact h.elim
  case irem =>
    obtain ⟨rfl, h⟩ := h
    split at h
    · obtain ⟨hne, h⟩ := h
      intro H locs ls hP hS hL
      exact lv_irem hx hb hd hne (hK _ _ _ _ h H locs ls hP hS hL)
    · exact h.elim
  case lcmp =>
    obtain ⟨rfl, h⟩ := h
    split at h
    · intro H locs ls hP hS hL
      exact W.lcmp hx hb hd (hK _ _ _ _ h H locs ls hP hS hL)
    · exact h.elim
  case dup =>
    obtain ⟨rfl, h⟩ := h
    split at h
    · obtain ⟨hc, h⟩ := h
      intro H locs ls hP hS hL
      exact lv_dup hx hb hd (by rw [xc_cat]; exact hc) (hK _ _ _ _ h H locs ls hP hS hL)
    · exact h.elim
  case pop =>
    obtain ⟨rfl, h⟩ := h
    split at h
    · obtain ⟨hc, h⟩ := h
      intro H locs ls hP hS hL
      exact lv_pop hx hb hd (by rw [xc_cat]; exact hc) (hK _ _ _ _ h H locs ls hP hS hL)
    · exact h.elim
  case dup2 =>
    obtain ⟨rfl, h⟩ := h
    split at h
    · obtain ⟨⟨hc, hc2⟩, h⟩ := h
      intro H locs ls hP hS hL
      exact lv_dup2_11 hx hb hd (by rw [xc_cat]; exact hc) (by rw [xc_cat]; exact hc2) (hK _ _ _ _ h H locs ls hP hS hL)
    · exact h.elim
  case dup_x1 =>
    obtain ⟨rfl, h⟩ := h
    split at h
    · obtain ⟨⟨hc, hc2⟩, h⟩ := h
      intro H locs ls hP hS hL
      exact lv_dup_x1 hx hb hd (by rw [xc_cat]; exact hc) (by rw [xc_cat]; exact hc2) (hK _ _ _ _ h H locs ls hP hS hL)
    · exact h.elim
  case ifCond cd off =>
    obtain ⟨rfl, h0, h⟩ := h
    split at h
    · intro H locs ls hP hS hL
      have ht := (Int.toNat_of_nonneg h0).symm
      cases cd
      · exact lv_if_eq hx hb hd ht (fun z => hK _ _ _ _ (h.1 z) H locs ls hP hS hL) (fun z => hK _ _ _ _ (h.2 z) H locs ls hP hS hL)
      · exact lv_if_ne hx hb hd ht (fun z => hK _ _ _ _ (h.1 z) H locs ls hP hS hL) (fun z => hK _ _ _ _ (h.2 (fun q => q z)) H locs ls hP hS hL)
      · exact lv_if_lt hx hb hd ht (fun z => hK _ _ _ _ (h.1 z) H locs ls hP hS hL) (fun z => hK _ _ _ _ (h.2 z) H locs ls hP hS hL)
      · exact lv_if_ge hx hb hd ht (fun z => hK _ _ _ _ (h.1 z) H locs ls hP hS hL) (fun z => hK _ _ _ _ (h.2 z) H locs ls hP hS hL)
      · exact lv_if_gt hx hb hd ht (fun z => hK _ _ _ _ (h.1 z) H locs ls hP hS hL) (fun z => hK _ _ _ _ (h.2 z) H locs ls hP hS hL)
      · exact lv_if_le hx hb hd ht (fun z => hK _ _ _ _ (h.1 z) H locs ls hP hS hL) (fun z => hK _ _ _ _ (h.2 z) H locs ls hP hS hL)
    · exact h.elim
  case if_icmp cd off =>
    obtain ⟨rfl, h0, h⟩ := h
    split at h
    · intro H locs ls hP hS hL
      have ht := (Int.toNat_of_nonneg h0).symm
      cases cd
      · exact lv_icmp_eq hx hb hd ht (fun z => hK _ _ _ _ (h.1 z) H locs ls hP hS hL) (fun z => hK _ _ _ _ (h.2 z) H locs ls hP hS hL)
      · exact lv_icmp_ne hx hb hd ht (fun z => hK _ _ _ _ (h.1 z) H locs ls hP hS hL) (fun z => hK _ _ _ _ (h.2 (fun q => q z)) H locs ls hP hS hL)
      · exact lv_icmp_lt hx hb hd ht (fun z => hK _ _ _ _ (h.1 z) H locs ls hP hS hL) (fun z => hK _ _ _ _ (h.2 z) H locs ls hP hS hL)
      · exact lv_icmp_ge hx hb hd ht (fun z => hK _ _ _ _ (h.1 z) H locs ls hP hS hL) (fun z => hK _ _ _ _ (h.2 z) H locs ls hP hS hL)
      · exact lv_icmp_gt hx hb hd ht (fun z => hK _ _ _ _ (h.1 z) H locs ls hP hS hL) (fun z => hK _ _ _ _ (h.2 z) H locs ls hP hS hL)
      · exact lv_icmp_le hx hb hd ht (fun z => hK _ _ _ _ (h.1 z) H locs ls hP hS hL) (fun z => hK _ _ _ _ (h.2 z) H locs ls hP hS hL)
    · exact h.elim
  case goto off =>
    obtain ⟨rfl, h0, h⟩ := h
    intro H locs ls hP hS hL
    exact lv_goto hx hb hd (Int.toNat_of_nonneg h0).symm (hK _ _ _ _ h H locs ls hP hS hL)
  case ifnull off =>
    obtain ⟨rfl, h⟩ := h
    split at h
    · intro H locs ls hP hS hL
      exact lv_ifnull hx hb hd (hK _ _ _ _ h H locs ls hP hS hL)
    · intro H locs ls hP hS hL
      exact lv_ifnullN hx hb hd (Int.toNat_of_nonneg h.1).symm (hK _ _ _ _ h.2 H locs ls hP hS hL)
    · exact h.elim
  case ifnonnull off =>
    obtain ⟨rfl, h⟩ := h
    split at h
    · intro H locs ls hP hS hL
      exact lv_ifnonnull hx hb hd (Int.toNat_of_nonneg h.1).symm (hK _ _ _ _ h.2 H locs ls hP hS hL)
    · intro H locs ls hP hS hL
      exact lv_ifnonnullN hx hb hd (hK _ _ _ _ h H locs ls hP hS hL)
    · exact h.elim
  case tableswitch dd lo hi offs =>
    dsimp only [xst] at h
    split at h
    · rename_i x st'
      obtain ⟨⟨h1, h2, h3⟩, h⟩ := h
      intro H locs ls hP hS hL
      have hrng : ∀ q ∈ xtb lo offs.toList, -2147483648 ≤ q.1 ∧ q.1 < 2147483648 := by
        intro q hq
        obtain ⟨j, hj⟩ := List.getElem?_of_mem hq
        rw [xtb_at] at hj
        cases ho : offs.toList[j]? with
        | none => rw [ho] at hj; cases hj
        | some o =>
          rw [ho] at hj
          have hl := (List.getElem?_eq_some_iff.mp ho).1
          have e : q.1 = lo + (j : Int) := by rw [← Option.some.inj hj]
          omega
      by_cases g : x.toInt < lo ∨ hi < x.toInt
      · have h5 := xsw_miss _ hrng (fun q hq e => by
          obtain ⟨j, hj⟩ := List.getElem?_of_mem hq
          rw [xtb_at] at hj
          cases ho : offs.toList[j]? with
          | none => rw [ho] at hj; cases hj
          | some o =>
            rw [ho] at hj
            have hl := (List.getElem?_eq_some_iff.mp ho).1
            have e2 : q.1 = lo + (j : Int) := by rw [← Option.some.inj hj]
            omega) h
        exact lv_tableOut hx hb hd g (Int.toNat_of_nonneg h5.1).symm (hK _ _ _ _ h5.2 H locs ls hP hS hL)
      · have g1 : ¬ x.toInt < lo := fun q => g (Or.inl q)
        have g2 : ¬ hi < x.toInt := fun q => g (Or.inr q)
        have hj : (x.toInt - lo).toNat < offs.toList.length := by omega
        have ho : offs.toList[(x.toInt - lo).toNat]? = some (offs.toList[(x.toInt - lo).toNat]) := List.getElem?_eq_getElem hj
        have h5 := xsw_hit (xtb lo offs.toList) (x.toInt - lo).toNat x.toInt (offs.toList[(x.toInt - lo).toNat]) hrng (fun i q hi hq e => by
          rw [xtb_at] at hq
          cases ho2 : offs.toList[i]? with
          | none => rw [ho2] at hq; cases hq
          | some o =>
            rw [ho2] at hq
            have e2 : q.1 = lo + (i : Int) := by rw [← Option.some.inj hq]
            omega) (by rw [xtb_at, ho]; show some (lo + ((x.toInt - lo).toNat : Int), _) = some (x.toInt, _); rw [show lo + ((x.toInt - lo).toNat : Int) = x.toInt by omega]) rfl h
        exact lv_tableIn hx hb hd g1 g2 (off := offs.toList[(x.toInt - lo).toNat]) (by rw [← Array.getElem?_toList]; exact ho) (Int.toNat_of_nonneg h5.1).symm (hK _ _ _ _ h5.2 H locs ls hP hS hL)
    · exact h.elim
  case lookupswitch dd ps =>
    dsimp only [xst] at h
    split at h
    · obtain ⟨h1, h⟩ := h
      intro H locs ls hP hS hL
      have h5 := xlk_ok _ (xsrt_rng h1) h
      exact lv_lookup hx hb hd (xsrt_ok h1) rfl (Int.toNat_of_nonneg h5.1).symm (hK _ _ _ _ h5.2 H locs ls hP hS hL)
    · exact h.elim
  case getfield idx =>
    obtain ⟨rfl, h⟩ := h
    split at h
    · rename_i ci f t hf
      obtain ⟨⟨hci, hfn, ht⟩, hlk, t0, t1, t2, t3, t4⟩ := hF _ _ _ _ hf
      split at h
      · rename_i a st'
        obtain ⟨⟨hk, hkd⟩, h⟩ := h
        intro H locs ls hP hS hL
        obtain ⟨q0, hq, he⟩ := xW_at (w := w) (ad := ad) (ca := ca) (σ := σ) hk
        rw [xE_ob hkd] at he
        have hv : ((List.range (xNf ci)).map (fun f => xfv w ad σ a (xTy ci f) f))[f]? = some (xc ad (xfg w σ a f t)) := by
          rw [xfs_get hfn, xfv_c ht (fun z => (t0 z).1) (fun z => (t1 z).1) (fun z => (t2 z).1) t3 (fun z => by
            rcases (t4 z).2 with q | q <;> cases q <;> rfl)]
        by_cases h4 : t = 4
        · obtain ⟨ho, hh⟩ := t4 h4
          have hkk := hK _ _ _ _ h H locs ls hP hS hL
          subst ho
          rcases hh with q | q
          · cases q
            exact va_getN (own := RX4) (ref := RX5) (C := RX5) (T := TX5) (N := 12) (host := RX6) (Ts := xBig) hx hb hts inlX5 hown hKK hP q0 he (xcl (ci := 5) (by decide)) 8 (by decide) (va_Nw.use rfl hXX.2.2.2.2.2.2.1) (fun _ z => z) (v := xc ad (xfg w σ a 8 t)) hv hd hkk
          · cases q
            exact va_getN (own := RX4) (ref := RX5) (C := RX5) (T := TX5) (N := 12) (host := RX6) (Ts := xBig) hx hb hts inlX5 hown hKK hP q0 he (xcl (ci := 5) (by decide)) 10 (by decide) (va_Nw.use rfl hXX.2.2.2.2.2.2.2) (fun _ z => z) (v := xc ad (xfg w σ a 10 t)) hv hd hkk
        · exact va_get (own := own) (ref := (xTT ci f).1) (C := xNm ci) (T := xTT ci) (N := xNf ci) (Ts := xBig) hx hb hts (xIn hci) hown hKK hP q0 he (xcl hci) f hfn (hts _ (hlk (by omega))) (fun _ z => z) (v := xc ad (xfg w σ a f t)) hv hd (hK _ _ _ _ h H locs ls hP hS hL)
      · exact h.elim
    · exact h.elim
  case putfield idx =>
    obtain ⟨rfl, h⟩ := h
    split at h
    · rename_i ci f t hf
      obtain ⟨⟨hci, hfn, ht⟩, hlk, t0, t1, t2, t3, t4⟩ := hF _ _ _ _ hf
      split at h
      · rename_i x a st1
        obtain ⟨⟨hk, hkd⟩, h⟩ := h
        have hty := (t0 rfl).1
        have hfin := (t0 rfl).2
        intro H locs ls hP hS hL
        obtain ⟨q0, hq, he⟩ := xW_at (w := w) (ad := ad) (ca := ca) (σ := σ) hk
        rw [xE_ob hkd] at he
        refine va_put (own := own) (ref := (xTT ci f).1) (C := xNm ci) (T := xTT ci) (N := xNf ci) (Ts := xBig) (ty := .int) hx hb hts (xIn hci) (xTy ci) (xTyOk hci) (xNmOk hci) hown hKK hP (hD σ) hS q0 he (xcl hci) f hfn (hts _ (hlk (by decide))) (fun _ z => z) hfin (by rw [xTyOk hci f hfn, hty]) rfl rfl (by simpa using hfn) hd (fun H1 locs1 hP1 hD1 hS1 => ?_)
        rw [xW_set (σ := σ) (σ' := xI σ a f x) hnd hq (by rw [xE_ob hkd, xfs_set (σ := σ) (σ' := xI σ a f x) hfn (by rw [hty]; simp [xfv, xI, xJ, xc]) (fun k hkf => by simp [xI, hkf]) (fun k hkf => rfl)]) (fun a' ha => xI_ne σ _ _ ha) (fun a' ha => rfl)] at hP1
        exact hK _ _ _ _ h H1 locs1 ls hP1 hS1 hL
      · rename_i x a st1
        obtain ⟨⟨hk, hkd⟩, hbx, h⟩ := h
        have hty := (t1 rfl).1
        have hfin := (t1 rfl).2
        intro H locs ls hP hS hL
        obtain ⟨q0, hq, he⟩ := xW_at (w := w) (ad := ad) (ca := ca) (σ := σ) hk
        rw [xE_ob hkd] at he
        refine va_put (own := own) (ref := (xTT ci f).1) (C := xNm ci) (T := xTT ci) (N := xNf ci) (Ts := xBig) (ty := .boolean) hx hb hts (xIn hci) (xTy ci) (xTyOk hci) (xNmOk hci) hown hKK hP (hD σ) hS q0 he (xcl hci) f hfn (hts _ (hlk (by decide))) (fun _ z => z) hfin (by rw [xTyOk hci f hfn, hty]) (by rcases hbx with rfl | rfl <;> rfl) (by rcases hbx with rfl | rfl <;> rfl) (by simpa using hfn) hd (fun H1 locs1 hP1 hD1 hS1 => ?_)
        rw [xW_set (σ := σ) (σ' := xI σ a f x) hnd hq (by rw [xE_ob hkd, xfs_set (σ := σ) (σ' := xI σ a f x) hfn (by rw [hty]; simp [xfv, xI, xJ, xc]) (fun k hkf => by simp [xI, hkf]) (fun k hkf => rfl)]) (fun a' ha => xI_ne σ _ _ ha) (fun a' ha => rfl)] at hP1
        exact hK _ _ _ _ h H1 locs1 ls hP1 hS1 hL
      · rename_i x a st1
        obtain ⟨⟨hk, hkd⟩, h⟩ := h
        have hty := (t2 rfl).1
        have hfin := (t2 rfl).2
        intro H locs ls hP hS hL
        obtain ⟨q0, hq, he⟩ := xW_at (w := w) (ad := ad) (ca := ca) (σ := σ) hk
        rw [xE_ob hkd] at he
        refine va_put (own := own) (ref := (xTT ci f).1) (C := xNm ci) (T := xTT ci) (N := xNf ci) (Ts := xBig) (ty := .long) hx hb hts (xIn hci) (xTy ci) (xTyOk hci) (xNmOk hci) hown hKK hP (hD σ) hS q0 he (xcl hci) f hfn (hts _ (hlk (by decide))) (fun _ z => z) hfin (by rw [xTyOk hci f hfn, hty]) rfl rfl (by simpa using hfn) hd (fun H1 locs1 hP1 hD1 hS1 => ?_)
        rw [xW_set (σ := σ) (σ' := xJ σ a f x) hnd hq (by rw [xE_ob hkd, xfs_set (σ := σ) (σ' := xJ σ a f x) hfn (by rw [hty]; simp [xfv, xI, xJ, xc]) (fun k hkf => rfl) (fun k hkf => by simp [xJ, hkf])]) (fun a' ha => rfl) (fun a' ha => xJ_ne σ _ _ ha)] at hP1
        exact hK _ _ _ _ h H1 locs1 ls hP1 hS1 hL
      · exact h.elim
    · exact h.elim
  case getstatic idx =>
    obtain ⟨rfl, h⟩ := h
    split at h
    · rename_i a ha
      obtain ⟨C2, n2, d2, hz, hl2⟩ := hG _ _ ha
      intro H locs ls hP hS hL
      exact va_gets hx hb hz hS hown hl2 (fun _ z => z) hd (hK _ _ _ _ h H locs ls hP hS hL)
    · exact h.elim
  case iaload =>
    obtain ⟨rfl, h⟩ := h
    split at h
    · rename_i i a st'
      split at h
      · rename_i n g hro
        intro H locs ls hP hS hL
        exact va_ti hx hb (hRo _ _ _ hro) hS h.1 rfl hd (hK _ _ _ _ h.2 H locs ls hP hS hL)
      · obtain ⟨⟨⟨hk, hkd⟩, hin⟩, h⟩ := h
        intro H locs ls hP hS hL
        obtain ⟨q0, hq, he⟩ := xW_at (w := w) (ad := ad) (ca := ca) (σ := σ) hk
        rw [xE_0 hkd] at he
        exact va_iald hx hb hKK hP q0 0 he rfl hin hd (hK _ _ _ _ h H locs ls hP hS hL)
    · exact h.elim
  case laload =>
    obtain ⟨rfl, h⟩ := h
    split at h
    · obtain ⟨⟨⟨hk, hkd⟩, hin⟩, h⟩ := h
      intro H locs ls hP hS hL
      obtain ⟨q0, hq, he⟩ := xW_at (w := w) (ad := ad) (ca := ca) (σ := σ) hk
      rw [xE_1 hkd] at he
      exact va_lald hx hb hKK hP q0 1 he rfl hin hd (hK _ _ _ _ h H locs ls hP hS hL)
    · exact h.elim
  case aaload =>
    obtain ⟨rfl, h⟩ := h
    split at h
    · obtain ⟨⟨hk, hin⟩, h⟩ := h
      intro H locs ls hP hS hL
      rcases hk with ⟨hk, hkd⟩ | ⟨hk, hkd⟩ | ⟨hk, hkd⟩
      · obtain ⟨q0, hq, he⟩ := xW_at (w := w) (ad := ad) (ca := ca) (σ := σ) hk
        rw [xE_2 hkd] at he
        exact va_aldq hx hb hKK hP q0 2 he rfl hin hd (hK _ _ _ _ h H locs ls hP hS hL)
      · obtain ⟨q0, hq, he⟩ := xW_at (w := w) (ad := ad) (ca := ca) (σ := σ) hk
        rw [xE_3 hkd] at he
        exact va_aldq hx hb hKK hP q0 3 he rfl hin hd (hK _ _ _ _ h H locs ls hP hS hL)
      · obtain ⟨q0, hq, he⟩ := xW_at (w := w) (ad := ad) (ca := ca) (σ := σ) hk
        rw [xE_4 hkd] at he
        exact va_aldq hx hb hKK hP q0 4 he rfl hin hd (hK _ _ _ _ h H locs ls hP hS hL)
    · exact h.elim
  case iastore =>
    obtain ⟨rfl, h⟩ := h
    split at h
    · rename_i x i a st1
      obtain ⟨⟨⟨hk, hkd⟩, hin⟩, h⟩ := h
      intro H locs ls hP hS hL
      obtain ⟨q0, hq, he⟩ := xW_at (w := w) (ad := ad) (ca := ca) (σ := σ) hk
      rw [xE_0 hkd] at he
      refine va_iast hx hb hKK hP (hD σ) hS q0 0 he rfl hin hd (fun H1 locs1 hP1 hD1 hS1 => ?_)
      rw [xW_set (σ := σ) (σ' := xI σ a i.toNatClampNeg x) hnd hq (by rw [xE_0 hkd, xI_self]) (fun a' ha => xI_ne σ _ _ ha) (fun a' ha => rfl)] at hP1
      exact hK _ _ _ _ h H1 locs1 ls hP1 hS1 hL
    · exact h.elim
  case lastore =>
    obtain ⟨rfl, h⟩ := h
    split at h
    · rename_i x i a st1
      obtain ⟨⟨⟨hk, hkd⟩, hin⟩, h⟩ := h
      intro H locs ls hP hS hL
      obtain ⟨q0, hq, he⟩ := xW_at (w := w) (ad := ad) (ca := ca) (σ := σ) hk
      rw [xE_1 hkd] at he
      refine va_last hx hb hKK hP (hD σ) hS q0 1 he rfl hin hd (fun H1 locs1 hP1 hD1 hS1 => ?_)
      rw [xW_set (σ := σ) (σ' := xJ σ a i.toNatClampNeg x) hnd hq (by rw [xE_1 hkd, xJ_self]) (fun a' ha => rfl) (fun a' ha => xJ_ne σ _ _ ha)] at hP1
      exact hK _ _ _ _ h H1 locs1 ls hP1 hS1 hL
    · exact h.elim
  case arraylength =>
    obtain ⟨rfl, h⟩ := h
    split at h
    · split at h
      · rename_i n g hro
        intro H locs ls hP hS hL
        exact va_tlen hx hb (hRo _ _ _ hro) hS rfl hd (hK _ _ _ _ h H locs ls hP hS hL)
      · obtain ⟨hk, h⟩ := h
        intro H locs ls hP hS hL
        rcases hk with ⟨hk, hkd⟩ | ⟨hk, hkd⟩ | ⟨hk, hkd⟩ | ⟨hk, hkd⟩ | ⟨hk, hkd⟩
        · obtain ⟨q0, hq, he⟩ := xW_at (w := w) (ad := ad) (ca := ca) (σ := σ) hk
          rw [xE_0 hkd] at he
          exact va_alen hx hb hKK hP q0 0 he rfl rfl hd (hK _ _ _ _ h H locs ls hP hS hL)
        · obtain ⟨q0, hq, he⟩ := xW_at (w := w) (ad := ad) (ca := ca) (σ := σ) hk
          rw [xE_1 hkd] at he
          exact va_alen hx hb hKK hP q0 1 he rfl rfl hd (hK _ _ _ _ h H locs ls hP hS hL)
        · obtain ⟨q0, hq, he⟩ := xW_at (w := w) (ad := ad) (ca := ca) (σ := σ) hk
          rw [xE_2 hkd] at he
          exact va_alen hx hb hKK hP q0 2 he rfl rfl hd (hK _ _ _ _ h H locs ls hP hS hL)
        · obtain ⟨q0, hq, he⟩ := xW_at (w := w) (ad := ad) (ca := ca) (σ := σ) hk
          rw [xE_3 hkd] at he
          exact va_alen hx hb hKK hP q0 3 he rfl rfl hd (hK _ _ _ _ h H locs ls hP hS hL)
        · obtain ⟨q0, hq, he⟩ := xW_at (w := w) (ad := ad) (ca := ca) (σ := σ) hk
          rw [xE_4 hkd] at he
          exact va_alen hx hb hKK hP q0 4 he rfl rfl hd (hK _ _ _ _ h H locs ls hP hS hL)
    · exact h.elim
  case invokevirtual idx =>
    obtain ⟨rfl, h⟩ := h
    split at h
    · rename_i n pre fn hc
      obtain ⟨as, st', h1, h2, h3, h4, h5⟩ := xpop_at h
      rw [List.append_nil] at h4 h5
      rw [h2]
      exact hCal _ _ _ _ _ hc pc L as st' σ hd h1 h3 h4 (hK _ _ _ _ h5)
    · exact h.elim
  case invokestatic idx =>
    obtain ⟨rfl, h⟩ := h
    split at h
    · rename_i n pre fn hc
      obtain ⟨as, st', h1, h2, h3, h4, h5⟩ := xpop_at h
      rw [List.append_nil] at h4 h5
      rw [h2]
      exact hCal _ _ _ _ _ hc pc L as st' σ hd h1 h3 h4 (hK _ _ _ _ h5)
    · exact h.elim
  case ireturn =>
    obtain ⟨rfl, h⟩ := h
    split at h
    · exact hRt _ _ _ _ h.2 ⟨hd, h.1⟩
    · exact h.elim
  case lreturn =>
    obtain ⟨rfl, h⟩ := h
    split at h
    · exact hRt _ _ _ _ h.2 ⟨hd, h.1⟩
    · exact h.elim
  case areturn =>
    obtain ⟨rfl, h⟩ := h
    split at h
    · exact hRt _ _ _ _ h.2 ⟨hd, h.1⟩
    · exact hRt _ _ _ _ h.2 ⟨hd, h.1⟩
    · exact h.elim
  case return_ =>
    obtain ⟨rfl, h⟩ := h
    split at h
    · exact hRt _ _ _ _ h.2 ⟨hd, h.1⟩
    · exact h.elim
  all_goals exact False.elim h
end XSND
