/-! the library's own methods on the five words -/
set_option maxHeartbeats 4000000 in
set_option maxRecDepth 100000 in
theorem xMet_hand {w : xD} {y : MethodName} {cc : ByteArray} {nL : Nat} {ret : Option FieldType} {d : Nat} {pre : List Value → xS → Prop} {fn : List Value → xS → Option Value × xS}
    (hy : plainName y.cls = true) (hnd : w.1.Nodup) (hlen : ∀ av σ, pre av σ → (xen av).length ≤ nL)
    (hbody : ∀ av σ, pre av σ → ∀ (p : Program) (l : Launch) (e : Env) (R : Room) (s : State) (m : MethodId) (args : Array Value) (below : List Frame) (meth : Method) (c : Code) (ad : Nat → Nat) (ca : Nat → ClassId) (D : va_G) (A0 : Nat → Prop) (cells slots : Nat) (Q : State → Prop), cells = 0 → slots = 0 → Q = MQ below (xQ w D ad ca (fn av σ).1 (fn av σ).2 A0) args s 0 0 A0 → xCx p R s m args meth c cells slots cc y.cls ret nL w ad ca D A0 d → xG p l e R s m args below meth c cells slots Q w ad ca D A0 nL 0 (xenp nL av) [] σ) : xMet w y cc nL ret d pre fn := by
  intro l D ad ca av σ sz hpre
  refine Met.ofW (cc := cc) (maxL := nL) (ret := ret) hy rfl ?_
  intro p e s m args below meth c s₁ B hml hv
  obtain ⟨rfl, hsz, hP, hK, hD0, hXX⟩ := hv
  have hx := B.exec
  have hb := B.bytes
  have hr := B.returns
  have hts := atoms_spec (ws := .code y cc nL ret :: xBig) B.pre
  have hown : s.vm.findClass y.cls = some m.cls := findClass_of_methodNamed B.named
  have hlocks := B.notSynchronized
  subst hsz
  have hD := hD0.self (sz := s.heap.size)
  have C : xCx p (headSpec (.code y cc nL ret :: xBig) (xRm d)).room s m (av.map (xc ad)).toArray meth c 0 0 cc y.cls ret nL w ad ca D (va_A (xW w ad ca σ) s.heap.size) d :=
    ⟨hx, hb, hml, hr, hlocks, hown, fun x h => hts x (List.mem_cons_of_mem _ h), hK, xW_D hD, fun q h => Or.inr h, hXX, hnd, ⟨Nat.le_refl _, Nat.le_refl _⟩, ⟨Nat.le_refl _, Nat.le_refl _⟩⟩
  have hl := lv_entry (av.map (xc ad)) (n := nL) (by rw [xen_len]; exact hlen av σ hpre)
  rw [lg_entry_eq]
  generalize (lg_sl (av.map (xc ad)) ++ List.replicate (nL - (lg_sl (av.map (xc ad))).length) Slot.unset).toArray = ls at hl ⊢
  have hL : xh ad ls nL (xenp nL av) := ⟨hl.1, hl.2.1, fun j v hj => by
    have h1 := hl.2.2 _ (xen_at av ad 0 j v (xenp_at av nL j v hj))
    simpa using h1⟩
  exact hbody av σ hpre p l e _ s m _ below meth c ad ca D _ 0 0 _ rfl rfl rfl C s.heap [] ls hP va_S.rf hL
set_option maxHeartbeats 4000000 in
set_option maxRecDepth 100000 in
theorem xCk_W {w : xD} {nL : Nat} {cc : ByteArray} {own : String} {d idx : Nat} {y : MethodName} {cc' : ByteArray} {nL' : Nat} {ret' : Option FieldType} {d' n : Nat} {pre : List Value → xS → Prop} {fn : List Value → xS → Option Value × xS} (hM : xMet w y cc' nL' ret' d' pre fn)
    (hd : d' < d) (hn : nL' ≤ 21) (hyc : y.cls = "java/lang/String") (hpre : ∀ as σ, pre as σ → as.length = n + 1 → ∃ i as', i < 5 ∧ as = .ref (910 + i) :: as')
    (hw : ∀ x ∈ [Jvm.Cond.methodLink own idx y, .instanceMethod y, .selects y.cls y y, .initialized y.cls, .code y cc' nL' ret'], x ∈ xBig)
    (hdd : y.cls ≠ "java/lang/invoke/MethodHandle" ∧ y.cls ≠ "java/lang/invoke/VarHandle" ∧ (parseMethodDescriptor y.desc).map (fun d => d.parameters.length) = some n) : xCk w nL cc own d idx (false, n + 1, pre, fn) := by
  intro p l e R s m args below meth c cells slots Q ad ca D A0 ret C
  intro pc L as st σ hdg hlen hst hp kk H locs ls hP hS hL
  obtain ⟨hx, hb, hml, hr, hlocks, hown, hts, hKK, hD, hA, hXX, hnd, hR, hcs⟩ := id C
  obtain ⟨i, as', hi, rfl⟩ := hpre as σ hp hlen
  have hrv := vk_recv (locs := locs) hXX.2.2.1 hi hS
  have hcw : CallW R s args own "java/lang/String" idx y cc' nL' ret' (.code y cc' nL' ret' :: xBig) (xRm d') 0 0 n :=
    cwV (Ts := xBig) n hts (xgood (fun x hx => by
      rcases List.mem_append.mp hx with h | h
      · refine hw x ?_
        rw [← hyc] at h
        simp only [List.mem_cons, List.not_mem_nil, or_false] at h ⊢
        rcases h with h | h | h | h
        · exact Or.inl h
        · exact Or.inr (Or.inl h)
        · exact Or.inr (Or.inr (Or.inl h))
        · exact Or.inr (Or.inr (Or.inr (Or.inl h)))
      · rcases List.mem_cons.mp h with h | h
        · refine hw x ?_
          rw [h]
          simp
        · exact h)) rfl rfl rfl ⟨hyc, hdd⟩ ⟨by show d' + 1 ≤ R.frames; omega, by show 8 + (nL' + 11) + 40 * d' ≤ R.locals; omega⟩
  have hlen' : as'.length = n := by simpa using hlen
  have hrun := va_runV (p := p) (l := l) (e := e) (R := R) (s := s) (m := m) (args := args) (below := below) (meth := meth) (c := c) (H := H) (locs := locs) (cells := cells) (slots := slots) (g := F0 m pc ls (((Value.ref (910 + i) :: as').reverse ++ st).map (xc ad))) (b := ad (910 + i)) (As := as'.map (xc ad)) (rest := st.map (xc ad)) (index := idx) (nL := nL) (own := own) ⟨hx, hb, hml, hown, hts⟩ (hM l D ad ca (Value.ref (910 + i) :: as') σ H.size hp) hcw
    ⟨xPre_blind, hrv, fun U hU hW => ⟨rfl, xpre_at C hP hS hU hW⟩⟩ rfl (by simpa using hlen') hL.1 (by simp [xc]) (lv_room (xcat4 hst)) hdg ⟨by omega, by omega⟩
  exact xrun_go hrun hS (xA_sub C hS) hL kk
/-- a letter of a word -/
def xch (i : Nat) (k : Int32) : Int32 := (xbyt.getD i []).getD (tn k) 0
def xln (i : Nat) : Int32 := Int32.ofNat (xlen.getD i 0)
theorem xch_ok : ∀ i, i < 5 → ∀ j, j < xlen.getD i 0 → (((xbyt.getD i []).getD j 0 &&& 255).toUInt32 % 65536).toInt32 = (xbyt.getD i []).getD j 0 ∧ narrow .char (.int ((xbyt.getD i []).getD j 0)) = .int ((xbyt.getD i []).getD j 0) := by
  have key : ∀ i, i < 5 → ∀ j, j < 6 → j < xlen.getD i 0 → (((xbyt.getD i []).getD j 0 &&& 255).toUInt32 % 65536).toInt32 = (xbyt.getD i []).getD j 0 ∧ narrow .char (.int ((xbyt.getD i []).getD j 0)) = .int ((xbyt.getD i []).getD j 0) := by decide +kernel
  intro i hi j hj
  have h6 : ∀ i, i < 5 → xlen.getD i 0 ≤ 6 := by decide
  exact key i hi j (Nat.lt_of_lt_of_le hj (h6 i hi)) hj
theorem xln_ok : ∀ i, i < 5 → xshr (xln i) 0 = xln i := by decide +kernel
set_option maxRecDepth 200000 in
theorem wJ0 : ∀ x ∈ [Jvm.Cond.fieldLink RJ0 38 "java/lang/String" "COMPACT_STRINGS" "Z", .fieldLink RJ0 15 "java/lang/String" "coder" "B", .fieldLink RJ0 9 "java/lang/String" "value" "[B", .fieldLink RJ0 1053 "jdk/internal/util/Preconditions" "SIOOBE_FORMATTER" "Ljava/util/function/BiFunction;"], x ∈ xBig := xBig_of (by decide +kernel)
theorem q38 : Jvm.Cond.fieldLink RJ0 38 "java/lang/String" "COMPACT_STRINGS" "Z" ∈ xBig := wJ0 _ (by simp)
theorem q15 : Jvm.Cond.fieldLink RJ0 15 "java/lang/String" "coder" "B" ∈ xBig := wJ0 _ (by simp)
theorem q9 : Jvm.Cond.fieldLink RJ0 9 "java/lang/String" "value" "[B" ∈ xBig := wJ0 _ (by simp)
theorem q1053 : Jvm.Cond.fieldLink RJ0 1053 "jdk/internal/util/Preconditions" "SIOOBE_FORMATTER" "Ljava/util/function/BiFunction;" ∈ xBig := wJ0 _ (by simp)
set_option maxRecDepth 200000 in
theorem w_J0_335 : ∀ x ∈ [Jvm.Cond.methodLink RJ0 335 yJ0_coder_7d493, .instanceMethod yJ0_coder_7d493, .selects yJ0_coder_7d493.cls yJ0_coder_7d493 yJ0_coder_7d493, .initialized yJ0_coder_7d493.cls, .code yJ0_coder_7d493 cJ0_coder_7d493 1 (some .byte)], x ∈ xBig := xBig_of (by decide +kernel)
set_option maxRecDepth 200000 in
theorem w_J0_492 : ∀ x ∈ [Jvm.Cond.methodLink RJ0 492 yJ0_isLatin1_aae02, .instanceMethod yJ0_isLatin1_aae02, .selects yJ0_isLatin1_aae02.cls yJ0_isLatin1_aae02 yJ0_isLatin1_aae02, .initialized yJ0_isLatin1_aae02.cls, .code yJ0_isLatin1_aae02 cJ0_isLatin1_aae02 1 (some .boolean)], x ∈ xBig := xBig_of (by decide +kernel)
set_option maxRecDepth 200000 in
theorem w_J0_1059 : ∀ x ∈ [Jvm.Cond.methodLink RJ0 1059 yJ3_checkIndex_8e157, .static yJ3_checkIndex_8e157, .initialized yJ3_checkIndex_8e157.cls, .code yJ3_checkIndex_8e157 cJ3_checkIndex_8e157 3 (some .int)], x ∈ xBig := xBig_of (by decide +kernel)
set_option maxRecDepth 200000 in
theorem w_J1_9 : ∀ x ∈ [Jvm.Cond.methodLink RJ1 9 yJ0_checkIndex_df160, .static yJ0_checkIndex_df160, .initialized yJ0_checkIndex_df160.cls, .code yJ0_checkIndex_df160 cJ0_checkIndex_df160 2 none], x ∈ xBig := xBig_of (by decide +kernel)
set_option maxRecDepth 200000 in
theorem w_J0_495 : ∀ x ∈ [Jvm.Cond.methodLink RJ0 495 yJ1_charAt_3b067, .static yJ1_charAt_3b067, .initialized yJ1_charAt_3b067.cls, .code yJ1_charAt_3b067 cJ1_charAt_3b067 2 (some .char)], x ∈ xBig := xBig_of (by decide +kernel)
def pWd (as : List Value) (_ : xS) : Prop := ∃ i : Nat, i < 5 ∧ as = [.ref (910 + i)]
def fCoder (_ : List Value) (σ : xS) : Option Value × xS := (some (.int 0), σ)
def fLat (_ : List Value) (σ : xS) : Option Value × xS := (some (.int 1), σ)
def fSlen (as : List Value) (σ : xS) : Option Value × xS := match as with
  | [.ref K] => (some (.int (xln (K - 910))), σ)
  | _ => (none, σ)
def pChk (as : List Value) (_ : xS) : Prop := ∃ i n : Int32, 0 ≤ i ∧ i < n ∧ as = [.int i, .int n]
def fChk (_ : List Value) (σ : xS) : Option Value × xS := (none, σ)
def pChk3 (as : List Value) (_ : xS) : Prop := ∃ (i n : Int32), 0 ≤ i ∧ i < n ∧ (as = [.int i, .int n, .null] ∨ as = [.int i, .int n, .ref 930])
def fChk3 (as : List Value) (σ : xS) : Option Value × xS := match as with
  | .int i :: _ => (some (.int i), σ)
  | _ => (none, σ)
def pLch (as : List Value) (_ : xS) : Prop := ∃ (i : Nat) (k : Int32), i < 5 ∧ (0 ≤ k ∧ k < xln i) ∧ as = [.ref (920 + i), .int k]
def fLch (as : List Value) (σ : xS) : Option Value × xS := match as with
  | [.ref K, .int k] => (some (.int (xch (K - 920) k)), σ)
  | _ => (none, σ)
def pSch (as : List Value) (_ : xS) : Prop := ∃ (i : Nat) (k : Int32), i < 5 ∧ (0 ≤ k ∧ k < xln i) ∧ as = [.ref (910 + i), .int k]
def fSch (as : List Value) (σ : xS) : Option Value × xS := match as with
  | [.ref K, .int k] => (some (.int (xch (K - 910) k)), σ)
  | _ => (none, σ)
set_option maxHeartbeats 4000000 in
set_option maxRecDepth 100000 in
theorem mJ0_coder_7d493 : xMet WX yJ0_coder_7d493 cJ0_coder_7d493 1 (some .byte) 1 pWd fCoder := by
  refine xMet_hand (by decide) WX_nd ?_ ?_
  · rintro av σ ⟨i, hi, rfl⟩
    exact Nat.le_of_ble_eq_true rfl
  rintro av σ ⟨i, hi, rfl⟩ p l e R s m args below meth c ad ca D A0 cells slots Q rfl rfl rfl C H locs ls hP hS hL
  obtain ⟨hx, hb, hml, hr, hlocks, hown, hts, hKK, hD, hA, hXX, hnd, hR, hcs⟩ := id C
  refine va_gets hx hb hXX.2.2.2.2.1 hS hown (hts _ q38) (fun _ z => z) dJ0_coder_7d493_0 ?_
  refine lv_if_eq hx hb dJ0_coder_7d493_3 (tgt := 13) (by decide) (fun z => absurd z (by decide)) (fun _ => ?_)
  refine lv_aload_n hx hb dJ0_coder_7d493_6 (i := 0) rfl (hL.2.2 0 (.ref (910 + i)) rfl) ?_
  refine vk_getf hx hb (hXX.2.2.1.1 i hi).2.1 hS hown (hts _ q15) (fun _ z => z) dJ0_coder_7d493_7 ?_
  refine lv_goto hx hb dJ0_coder_7d493_10 (tgt := 14) (by decide) ?_
  exact W.zret (v := 0) (ty := .byte) hx hb hr rfl (fun t ht hW => ⟨⟨rfl, by rw [ht]; exact hP⟩, hS.F ht⟩) hS.2.2 dJ0_coder_7d493_14 hlocks
set_option maxHeartbeats 4000000 in
set_option maxRecDepth 100000 in
theorem mJ0_isLatin1_aae02 : xMet WX yJ0_isLatin1_aae02 cJ0_isLatin1_aae02 1 (some .boolean) 1 pWd fLat := by
  refine xMet_hand (by decide) WX_nd ?_ ?_
  · rintro av σ ⟨i, hi, rfl⟩
    exact Nat.le_of_ble_eq_true rfl
  rintro av σ ⟨i, hi, rfl⟩ p l e R s m args below meth c ad ca D A0 cells slots Q rfl rfl rfl C H locs ls hP hS hL
  obtain ⟨hx, hb, hml, hr, hlocks, hown, hts, hKK, hD, hA, hXX, hnd, hR, hcs⟩ := id C
  refine va_gets hx hb hXX.2.2.2.2.1 hS hown (hts _ q38) (fun _ z => z) dJ0_isLatin1_aae02_0 ?_
  refine lv_if_eq hx hb dJ0_isLatin1_aae02_3 (tgt := 17) (by decide) (fun z => absurd z (by decide)) (fun _ => ?_)
  refine lv_aload_n hx hb dJ0_isLatin1_aae02_6 (i := 0) rfl (hL.2.2 0 (.ref (910 + i)) rfl) ?_
  refine vk_getf hx hb (hXX.2.2.1.1 i hi).2.1 hS hown (hts _ q15) (fun _ z => z) dJ0_isLatin1_aae02_7 ?_
  refine lv_if_ne hx hb dJ0_isLatin1_aae02_10 (tgt := 17) (by decide) (fun z => absurd rfl z) (fun _ => ?_)
  refine lv_iconst hx hb dJ0_isLatin1_aae02_13 rfl ?_
  refine lv_goto hx hb dJ0_isLatin1_aae02_14 (tgt := 18) (by decide) ?_
  exact W.zret (v := 1) (ty := .boolean) hx hb hr rfl (fun t ht hW => ⟨⟨rfl, by rw [ht]; exact hP⟩, hS.F ht⟩) hS.2.2 dJ0_isLatin1_aae02_18 hlocks
set_option maxHeartbeats 4000000 in
set_option maxRecDepth 100000 in
theorem mJ0_length_8abf5 : xMet WX yJ0_length_8abf5 cJ0_length_8abf5 1 (some .int) 2 pWd fSlen := by
  refine xMet_hand (by decide) WX_nd ?_ ?_
  · rintro av σ ⟨i, hi, rfl⟩
    exact Nat.le_of_ble_eq_true rfl
  rintro av σ ⟨i, hi, rfl⟩ p l e R s m args below meth c ad ca D A0 cells slots Q rfl rfl rfl C H locs ls hP hS hL
  obtain ⟨hx, hb, hml, hr, hlocks, hown, hts, hKK, hD, hA, hXX, hnd, hR, hcs⟩ := id C
  have e9 : fSlen [.ref (910 + i)] σ = (some (.int (xln i)), σ) := by show (some (Value.int (xln (910 + i - 910))), σ) = _; rw [Nat.add_sub_cancel_left]
  have hcal := xCk_W (n := 0) mJ0_coder_7d493 (d := 2) (by decide) (by decide) rfl (fun as σ h _ => by obtain ⟨i, hi, rfl⟩ := h; exact ⟨i, [], hi, rfl⟩) w_J0_335 ⟨by decide, by decide, by decide +kernel⟩ p l e R s m args below meth c 0 0 (MQ below (xQ WX D ad ca (fSlen [.ref (910 + i)] σ).1 (fSlen [.ref (910 + i)] σ).2 A0) args s 0 0 A0) ad ca D A0 _ C
  refine lv_aload_n hx hb dJ0_length_8abf5_0 (i := 0) rfl (hL.2.2 0 (.ref (910 + i)) rfl) ?_
  refine vk_getf hx hb (hXX.2.2.1.1 i hi).2.2.1 hS hown (hts _ q9) (fun _ z => z) dJ0_length_8abf5_1 ?_
  refine va_tlen hx hb (hXX.2.2.1.1 i hi).2.2.2 hS (v := xln i) rfl dJ0_length_8abf5_4 ?_
  refine lv_aload_n hx hb dJ0_length_8abf5_5 (i := 0) rfl (hL.2.2 0 (.ref (910 + i)) rfl) ?_
  refine hcal 6 (xenp 1 [.ref (910 + i)]) [.ref (910 + i)] [.int (xln i)] σ dJ0_length_8abf5_6 rfl (Nat.le_of_ble_eq_true rfl) ⟨i, hi, rfl⟩ ?_ H locs ls hP hS hL
  intro H locs ls hP hS hL
  refine lv_ishr hx hb dJ0_length_8abf5_9 ?_
  rw [show (xln i >>> ((0 : Int32) &&& 31)) = xln i from xln_ok i hi]
  rw [e9]
  exact W.iret (v := xln i) hx hb hr (fun t ht hW => ⟨⟨rfl, by rw [ht]; exact hP⟩, hS.F ht⟩) hS.2.2 dJ0_length_8abf5_10 hlocks
set_option maxHeartbeats 4000000 in
set_option maxRecDepth 100000 in
theorem mJ3_checkIndex_8e157 : xMet WX yJ3_checkIndex_8e157 cJ3_checkIndex_8e157 3 (some .int) 1 pChk3 fChk3 := by
  refine xMet_hand (by decide) WX_nd ?_ ?_
  · rintro av σ ⟨i, n, h1, h2, rfl | rfl⟩ <;> exact Nat.le_of_ble_eq_true rfl
  rintro av σ ⟨i, n, h1, h2, hav⟩ p l e R s m args below meth c ad ca D A0 cells slots Q rfl rfl rfl C H locs ls hP hS hL
  obtain ⟨hx, hb, hml, hr, hlocks, hown, hts, hKK, hD, hA, hXX, hnd, hR, hcs⟩ := id C
  have hl0 := hL.2.2 0 (.int i) (by rcases hav with rfl | rfl <;> rfl)
  have hl1 := hL.2.2 1 (.int n) (by rcases hav with rfl | rfl <;> rfl)
  have e9 : fChk3 av σ = (some (.int i), σ) := by rcases hav with rfl | rfl <;> rfl
  refine lv_iload_n hx hb dJ3_checkIndex_8e157_0 (i := 0) rfl hl0 ?_
  refine lv_if_lt hx hb dJ3_checkIndex_8e157_1 (tgt := 9) (by decide) (fun z => absurd h1 (Int32.not_le.mpr z)) (fun _ => ?_)
  refine lv_iload_n hx hb dJ3_checkIndex_8e157_4 (i := 0) rfl hl0 ?_
  refine lv_iload_n hx hb dJ3_checkIndex_8e157_5 (i := 1) rfl hl1 ?_
  refine lv_icmp_lt hx hb dJ3_checkIndex_8e157_6 (tgt := 16) (by decide) (fun _ => ?_) (fun z => absurd h2 z)
  refine lv_iload_n hx hb dJ3_checkIndex_8e157_16 (i := 0) rfl hl0 ?_
  rw [e9]
  exact W.iret (v := i) hx hb hr (fun t ht hW => ⟨⟨rfl, by rw [ht]; exact hP⟩, hS.F ht⟩) hS.2.2 dJ3_checkIndex_8e157_17 hlocks
set_option maxHeartbeats 4000000 in
set_option maxRecDepth 100000 in
theorem mJ0_checkIndex_df160 : xMet WX yJ0_checkIndex_df160 cJ0_checkIndex_df160 2 none 2 pChk fChk := by
  refine xMet_hand (by decide) WX_nd ?_ ?_
  · rintro av σ ⟨i, n, h1, h2, rfl⟩
    exact Nat.le_of_ble_eq_true rfl
  rintro av σ ⟨i, n, h1, h2, rfl⟩ p l e R s m args below meth c ad ca D A0 cells slots Q rfl rfl rfl C H locs ls hP hS hL
  obtain ⟨hx, hb, hml, hr, hlocks, hown, hts, hKK, hD, hA, hXX, hnd, hR, hcs⟩ := id C
  have hl0 := hL.2.2 0 (.int i) rfl
  have hl1 := hL.2.2 1 (.int n) rfl
  have hcal := xCk_S (n := 3) mJ3_checkIndex_8e157 (d := 2) (by decide) (by decide) w_J0_1059 ⟨by decide, by decide, by decide +kernel⟩ p l e R s m args below meth c 0 0 (MQ below (xQ WX D ad ca (fChk [.int i, .int n] σ).1 (fChk [.int i, .int n] σ).2 A0) args s 0 0 A0) ad ca D A0 _ C
  refine lv_iload_n hx hb dJ0_checkIndex_df160_0 (i := 0) rfl hl0 ?_
  refine lv_iload_n hx hb dJ0_checkIndex_df160_1 (i := 1) rfl hl1 ?_
  have fin : xG p l e R s m args below meth c 0 0 (MQ below (xQ WX D ad ca (fChk [.int i, .int n] σ).1 (fChk [.int i, .int n] σ).2 A0) args s 0 0 A0) WX ad ca D A0 2 8 (xenp 2 [.int i, .int n]) [.int i] σ := by
    intro H locs ls hP hS hL
    refine lv_pop hx hb dJ0_checkIndex_df160_8 rfl ?_
    exact W.vret hx hb hr (fun t ht hW => ⟨⟨rfl, by rw [ht]; exact hP⟩, hS.F ht⟩) hS.2.2 dJ0_checkIndex_df160_9 hlocks
  rcases hXX.2.2.2.2.2.1 with hz | hz
  · refine va_gets hx hb hz hS hown (hts _ q1053) (fun _ z => z) dJ0_checkIndex_df160_2 ?_
    exact hcal 5 (xenp 2 [.int i, .int n]) [.int i, .int n, .null] [] σ dJ0_checkIndex_df160_5 rfl (by decide) ⟨i, n, h1, h2, Or.inl rfl⟩ fin H locs ls hP hS hL
  · refine va_gets hx hb hz hS hown (hts _ q1053) (fun _ z => z) dJ0_checkIndex_df160_2 ?_
    exact hcal 5 (xenp 2 [.int i, .int n]) [.int i, .int n, .ref 930] [] σ dJ0_checkIndex_df160_5 rfl (by decide) ⟨i, n, h1, h2, Or.inr rfl⟩ fin H locs ls hP hS hL
theorem xln_in {i : Nat} {k : Int32} (hi : i < 5) (h : 0 ≤ k ∧ k < xln i) : tn k < xlen.getD i 0 ∧ vp_in k (xlen.getD i 0) := by
  have h6 : ∀ i, i < 5 → (xln i).toInt = ((xlen.getD i 0 : Nat) : Int) := by decide +kernel
  have h1 := Int32.lt_iff_toInt_lt.mp h.2
  rw [h6 i hi] at h1
  have h0 : (0 : Int) ≤ k.toInt := by simpa using Int32.le_iff_toInt_le.mp h.1
  have h2 : tn k < xlen.getD i 0 := by show k.toInt.toNat < _; omega
  refine ⟨h2, fun q => ?_⟩
  rcases q with q | q
  · exact absurd h.1 (Int32.not_le.mpr q)
  · exact absurd h2 (Nat.not_lt.mpr q)
set_option maxHeartbeats 4000000 in
set_option maxRecDepth 100000 in
theorem mJ1_charAt_3b067 : xMet WX yJ1_charAt_3b067 cJ1_charAt_3b067 2 (some .char) 3 pLch fLch := by
  refine xMet_hand (by decide) WX_nd ?_ ?_
  · rintro av σ ⟨i, k, hi, hk, rfl⟩
    exact Nat.le_of_ble_eq_true rfl
  rintro av σ ⟨i, k, hi, hk, rfl⟩ p l e R s m args below meth c ad ca D A0 cells slots Q rfl rfl rfl C H locs ls hP hS hL
  obtain ⟨hx, hb, hml, hr, hlocks, hown, hts, hKK, hD, hA, hXX, hnd, hR, hcs⟩ := id C
  have e9 : fLch [.ref (920 + i), .int k] σ = (some (.int (xch i k)), σ) := by show (some (Value.int (xch (920 + i - 920) k)), σ) = _; rw [Nat.add_sub_cancel_left]
  obtain ⟨g1, g2⟩ := xln_in hi hk
  obtain ⟨g3, g4⟩ := xch_ok i hi _ g1
  have hT := (hXX.2.2.1.1 i hi).2.2.2
  have hcal := xCk_S (n := 2) mJ0_checkIndex_df160 (d := 3) (by decide) (by decide) w_J1_9 ⟨by decide, by decide, by decide +kernel⟩ p l e R s m args below meth c 0 0 (MQ below (xQ WX D ad ca (fLch [.ref (920 + i), .int k] σ).1 (fLch [.ref (920 + i), .int k] σ).2 A0) args s 0 0 A0) ad ca D A0 _ C
  refine lv_iload_n hx hb dJ1_charAt_3b067_0 (i := 1) rfl (hL.2.2 1 (.int k) rfl) ?_
  refine lv_aload_n hx hb dJ1_charAt_3b067_1 (i := 0) rfl (hL.2.2 0 (.ref (920 + i)) rfl) ?_
  refine va_tlen hx hb hT hS (v := xln i) rfl dJ1_charAt_3b067_2 ?_
  refine hcal 3 (xenp 2 [.ref (920 + i), .int k]) [.int k, .int (xln i)] [] σ dJ1_charAt_3b067_3 rfl (by decide) ⟨k, xln i, hk.1, hk.2, rfl⟩ ?_ H locs ls hP hS hL
  intro H locs ls hP hS hL
  refine lv_aload_n hx hb dJ1_charAt_3b067_6 (i := 0) rfl (hL.2.2 0 (.ref (920 + i)) rfl) ?_
  refine lv_iload_n hx hb dJ1_charAt_3b067_7 (i := 1) rfl (hL.2.2 1 (.int k) rfl) ?_
  refine va_tb hx hb hT hS g2 (v := .int (xch i k)) rfl dJ1_charAt_3b067_8 ?_
  refine lv_sipush hx hb dJ1_charAt_3b067_9 (v := 255) (by decide) ?_
  refine lv_iand hx hb dJ1_charAt_3b067_12 ?_
  refine lv_i2c hx hb (v := xch i k) dJ1_charAt_3b067_13 g3 ?_
  rw [e9]
  exact W.zret (v := xch i k) (ty := .char) hx hb hr g4 (fun t ht hW => ⟨⟨rfl, by rw [ht]; exact hP⟩, hS.F ht⟩) hS.2.2 dJ1_charAt_3b067_14 hlocks
set_option maxHeartbeats 4000000 in
set_option maxRecDepth 100000 in
theorem mJ0_charAt_5068e : xMet WX yJ0_charAt_5068e cJ0_charAt_5068e 2 (some .char) 4 pSch fSch := by
  refine xMet_hand (by decide) WX_nd ?_ ?_
  · rintro av σ ⟨i, k, hi, hk, rfl⟩
    exact Nat.le_of_ble_eq_true rfl
  rintro av σ ⟨i, k, hi, hk, rfl⟩ p l e R s m args below meth c ad ca D A0 cells slots Q rfl rfl rfl C H locs ls hP hS hL
  obtain ⟨hx, hb, hml, hr, hlocks, hown, hts, hKK, hD, hA, hXX, hnd, hR, hcs⟩ := id C
  have e9 : fSch [.ref (910 + i), .int k] σ = (some (.int (xch i k)), σ) := by show (some (Value.int (xch (910 + i - 910) k)), σ) = _; rw [Nat.add_sub_cancel_left]
  have e8 : fLch [.ref (920 + i), .int k] σ = (some (.int (xch i k)), σ) := by show (some (Value.int (xch (920 + i - 920) k)), σ) = _; rw [Nat.add_sub_cancel_left]
  obtain ⟨g1, g2⟩ := xln_in hi hk
  obtain ⟨g3, g4⟩ := xch_ok i hi _ g1
  have hcal := xCk_W (n := 0) mJ0_isLatin1_aae02 (d := 4) (by decide) (by decide) rfl (fun as σ h _ => by obtain ⟨i, hi, rfl⟩ := h; exact ⟨i, [], hi, rfl⟩) w_J0_492 ⟨by decide, by decide, by decide +kernel⟩ p l e R s m args below meth c 0 0 (MQ below (xQ WX D ad ca (fSch [.ref (910 + i), .int k] σ).1 (fSch [.ref (910 + i), .int k] σ).2 A0) args s 0 0 A0) ad ca D A0 _ C
  have hcal2 := xCk_S (n := 2) mJ1_charAt_3b067 (d := 4) (by decide) (by decide) w_J0_495 ⟨by decide, by decide, by decide +kernel⟩ p l e R s m args below meth c 0 0 (MQ below (xQ WX D ad ca (fSch [.ref (910 + i), .int k] σ).1 (fSch [.ref (910 + i), .int k] σ).2 A0) args s 0 0 A0) ad ca D A0 _ C
  refine lv_aload_n hx hb dJ0_charAt_5068e_0 (i := 0) rfl (hL.2.2 0 (.ref (910 + i)) rfl) ?_
  refine hcal 1 (xenp 2 [.ref (910 + i), .int k]) [.ref (910 + i)] [] σ dJ0_charAt_5068e_1 rfl (by decide) ⟨i, hi, rfl⟩ ?_ H locs ls hP hS hL
  intro H locs ls hP hS hL
  refine lv_if_eq hx hb dJ0_charAt_5068e_4 (tgt := 16) (by decide) (fun z => absurd z (by decide)) (fun _ => ?_)
  refine lv_aload_n hx hb dJ0_charAt_5068e_7 (i := 0) rfl (hL.2.2 0 (.ref (910 + i)) rfl) ?_
  refine vk_getf hx hb (hXX.2.2.1.1 i hi).2.2.1 hS hown (hts _ q9) (fun _ z => z) dJ0_charAt_5068e_8 ?_
  refine lv_iload_n hx hb dJ0_charAt_5068e_11 (i := 1) rfl (hL.2.2 1 (.int k) rfl) ?_
  refine hcal2 12 (xenp 2 [.ref (910 + i), .int k]) [.ref (920 + i), .int k] [] σ dJ0_charAt_5068e_12 rfl (by decide) ⟨i, k, hi, hk, rfl⟩ ?_ H locs ls hP hS hL
  dsimp only
  rw [e8, e9]
  intro H locs ls hP hS hL
  exact W.zret (v := xch i k) (ty := .char) hx hb hr g4 (fun t ht hW => ⟨⟨rfl, by rw [ht]; exact hP⟩, hS.F ht⟩) hS.2.2 dJ0_charAt_5068e_15 hlocks
theorem pWd_e {K : Nat} {σ : xS} : pWd [.ref K] σ = (910 ≤ K ∧ K < 915) := by
  refine propext ⟨fun h => ?_, fun h => ?_⟩
  · obtain ⟨i, hi, e⟩ := h
    have hi' : i < 5 := hi
    cases e
    exact ⟨by omega, by omega⟩
  · obtain ⟨h1, h2⟩ := h
    exact ⟨K - 910, by show K - 910 < 5; omega, by rw [Nat.add_sub_cancel' h1]⟩
theorem fSlen_e {K : Nat} {σ : xS} : fSlen [.ref K] σ = (some (.int (xln (K - 910))), σ) := rfl
theorem pSch_e {K : Nat} {k : Int32} {σ : xS} : pSch [.ref K, .int k] σ = ((910 ≤ K ∧ K < 915) ∧ (0 ≤ k ∧ k < xln (K - 910))) := propext ⟨fun h => by
  obtain ⟨i, k', hi, hk, e⟩ := h
  cases e
  exact ⟨by omega, by rw [Nat.add_sub_cancel_left]; exact hk⟩, fun h => ⟨K - 910, k, by omega, h.2, by rw [Nat.add_sub_cancel' h.1.1]⟩⟩
theorem fSch_e {K : Nat} {k : Int32} {σ : xS} : fSch [.ref K, .int k] σ = (some (.int (xch (K - 910) k)), σ) := rfl
theorem pWd_r : ∀ as σ, pWd as σ → as.length = 0 + 1 → ∃ i as', i < 5 ∧ as = .ref (910 + i) :: as' := fun as σ h _ => by obtain ⟨i, hi, rfl⟩ := h; exact ⟨i, [], hi, rfl⟩
theorem pSch_r : ∀ as σ, pSch as σ → as.length = 1 + 1 → ∃ i as', i < 5 ∧ as = .ref (910 + i) :: as' := fun as σ h _ => by obtain ⟨i, k, hi, hk, rfl⟩ := h; exact ⟨i, [.int k], hi, rfl⟩
