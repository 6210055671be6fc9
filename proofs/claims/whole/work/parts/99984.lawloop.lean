/-! THE LAW'S LOOP -/
theorem and63 (x : Int32) : ∃ n, n < 64 ∧ x &&& 63 = nI n := by
  refine ⟨(x &&& 63).toBitVec.toNat, ?_, ?_⟩
  · rw [Int32.toBitVec_and, BitVec.toNat_and]
    have : x.toBitVec.toNat &&& (63 : Int32).toBitVec.toNat ≤ 63 := Nat.and_le_right
    omega
  · refine Int32.toBitVec_inj.mp ?_
    show _ = BitVec.ofNat 32 _
    rw [BitVec.ofNat_toNat, BitVec.setWidth_eq]
set_option maxHeartbeats 1000000 in
set_option maxRecDepth 100000 in
theorem law_loop {p : Program} {l : Launch} {e : Env} {s : State} {m : MethodId} {below : List Frame} {meth : Method} {c : Code} {cells slots : Nat} {b L : Nat} {xs : Nat → Int32} {D : va_G} {ca : Nat → ClassId} {aX aM : Nat → Nat} {A0 : Nat → Prop} (C : LSt p s m meth c b L xs D ca aX aM A0 cells slots) (hA0 : ∀ q, A0 q → s.heap.size ≤ q) :
    ∀ (n i : Nat), i ≤ L + 6 → L + 7 ≤ i + n → ∀ {G N : Nat} {σ τ : xS} {H : Heap} {locs : List Loc} {ls : Array Slot}, RRn G N σ τ → LHp s D ca aX aM A0 σ τ H locs → LLs b i aX aM ls → W p l e room_1 s m #[Value.ref b] below meth c H locs cells slots (lw_Z below #[Value.ref b] s) (F0 m 18 ls []) := by
  intro n
  induction n with
  | zero => intro i h1 h2; exact absurd h2 (by omega)
  | succ n ih =>
    intro i hi hin G N σ τ H locs ls h hH hl
    obtain ⟨hx, hb, hml, hr, hlocks, hown, hts, -⟩ := C.1
    obtain ⟨hX, hbl, hbA⟩ := C.2.2.2.1
    obtain ⟨hL, hc1, hc2⟩ := C.2.2.2.2
    refine lv_iload_n hx hb dL_law_18 rfl (lv_at hl 0 rfl) ?_
    refine lv_aload_n hx hb dL_law_19 rfl (lv_at hl 1 rfl) ?_
    refine va_slen hx hb hX hbl hbA hH.2 dL_law_20 ?_
    refine lv_bipush (v := nI 6) hx hb dL_law_21 (by decide) ?_
    refine lv_isub hx hb dL_law_23 ?_
    refine lv_icmp_gt (tgt := 1454) hx hb dL_law_24 (by decide) (fun _ => ?_) (fun hq => ?_)
    · refine lv_iconst (v := 1) hx hb dL_law_1454 (by decide) ?_
      refine va_forget (fun q hq => hA0 _ (hH.2.2.2 q hq)) ?_
      refine W.widen (k := 600000) (n := 7302250) hc1 hc2 ?_
      exact lw_ret hx hb hr hlocks dL_law_1455
    · have hlt : i + 6 ≤ L := by
        rcases Nat.lt_or_ge L (i + 6) with q | q
        · refine absurd ?_ hq
          rw [t_lt]
          show (nI L - nI 6).toInt < (nI i).toInt
          rw [pk_sub_toInt (by omega) (by omega), t_nI (by omega)]
          omega
        · exact q
      have next : ∀ (G' N' : Nat) (σ' τ' : xS) (H' : Heap) (locs' : List Loc), RRn G' N' σ' τ' → LHp s D ca aX aM A0 σ' τ' H' locs' → W p l e room_1 s m #[Value.ref b] below meth c H' locs' cells slots (lw_Z below #[Value.ref b] s) (F0 m 1448 ls []) := fun G' N' σ' τ' H' locs' h' hH' => by
        refine lv_iinc (v := nI (i + 6)) (lv' := [(3, .int (nI (i + 6))), (0, .ref b), (1, .ref (aX 0)), (2, .ref (aM 0))]) hx hb dL_law_1448 hl (k := 0) rfl (by rw [← nI_add]; rfl) (by decide) rfl (fun ls hl => ?_)
        refine lv_goto (tgt := 18) hx hb dL_law_1451 (by decide) ?_
        exact ih (i + 6) (by omega) (by omega) h' hH' hl
      refine lv_aload_n hx hb dL_law_27 rfl (lv_at hl 1 rfl) ?_
      refine lv_iload_n hx hb dL_law_28 rfl (lv_at hl 0 rfl) ?_
      refine va_sld hx hb hX hbl hbA hH.2 (vp_in_nI (show i < L by omega) (by omega)) dL_law_29 ?_
      refine lv_bipush (v := 63) hx hb dL_law_30 (by decide) ?_
      refine lv_iand hx hb dL_law_32 ?_
      obtain ⟨k, hk, ek⟩ := and63 (xs (nI i).toNatClampNeg)
      rw [ek]
      by_cases hk39 : k < 39
      · have hcs : k = 0 ∨ k = 1 ∨ k = 2 ∨ k = 3 ∨ k = 4 ∨ k = 5 ∨ k = 6 ∨ k = 7 ∨ k = 8 ∨ k = 9 ∨ k = 10 ∨ k = 11 ∨ k = 12 ∨ k = 13 ∨ k = 14 ∨ k = 15 ∨ k = 16 ∨ k = 17 ∨ k = 18 ∨ k = 19 ∨ k = 20 ∨ k = 21 ∨ k = 22 ∨ k = 23 ∨ k = 24 ∨ k = 25 ∨ k = 26 ∨ k = 27 ∨ k = 28 ∨ k = 29 ∨ k = 30 ∨ k = 31 ∨ k = 32 ∨ k = 33 ∨ k = 34 ∨ k = 35 ∨ k = 36 ∨ k = 37 ∨ k = 38 := by omega
        rcases hcs with rfl | rfl | rfl | rfl | rfl | rfl | rfl | rfl | rfl | rfl | rfl | rfl | rfl | rfl | rfl | rfl | rfl | rfl | rfl | rfl | rfl | rfl | rfl | rfl | rfl | rfl | rfl | rfl | rfl | rfl | rfl | rfl | rfl | rfl | rfl | rfl | rfl | rfl | rfl
        · exact lv_tableIn (tgt := 204) (off := 171) hx hb dL_law_33 (by decide) (by decide) rfl (by decide) (law_0 C h hH hl hlt next)
        · exact lv_tableIn (tgt := 247) (off := 214) hx hb dL_law_33 (by decide) (by decide) rfl (by decide) (law_1 C h hH hl hlt next)
        · exact lv_tableIn (tgt := 320) (off := 287) hx hb dL_law_33 (by decide) (by decide) rfl (by decide) (law_2 C h hH hl hlt next)
        · exact lv_tableIn (tgt := 383) (off := 350) hx hb dL_law_33 (by decide) (by decide) rfl (by decide) (law_3 C h hH hl hlt next)
        · exact lv_tableIn (tgt := 417) (off := 384) hx hb dL_law_33 (by decide) (by decide) rfl (by decide) (law_4 C h hH hl hlt next)
        · exact lv_tableIn (tgt := 450) (off := 417) hx hb dL_law_33 (by decide) (by decide) rfl (by decide) (law_5 C h hH hl hlt next)
        · exact lv_tableIn (tgt := 473) (off := 440) hx hb dL_law_33 (by decide) (by decide) rfl (by decide) (law_6 C h hH hl hlt next)
        · exact lv_tableIn (tgt := 506) (off := 473) hx hb dL_law_33 (by decide) (by decide) rfl (by decide) (law_7 C h hH hl hlt next)
        · exact lv_tableIn (tgt := 549) (off := 516) hx hb dL_law_33 (by decide) (by decide) rfl (by decide) (law_8 C h hH hl hlt next)
        · exact lv_tableIn (tgt := 582) (off := 549) hx hb dL_law_33 (by decide) (by decide) rfl (by decide) (law_9 C h hH hl hlt next)
        · exact lv_tableIn (tgt := 645) (off := 612) hx hb dL_law_33 (by decide) (by decide) rfl (by decide) (law_10 C h hH hl hlt next)
        · exact lv_tableIn (tgt := 678) (off := 645) hx hb dL_law_33 (by decide) (by decide) rfl (by decide) (law_11 C h hH hl hlt next)
        · exact lv_tableIn (tgt := 727) (off := 694) hx hb dL_law_33 (by decide) (by decide) rfl (by decide) (law_12 C h hH hl hlt next)
        · exact lv_tableIn (tgt := 750) (off := 717) hx hb dL_law_33 (by decide) (by decide) rfl (by decide) (law_13 C h hH hl hlt next)
        · exact lv_tableIn (tgt := 773) (off := 740) hx hb dL_law_33 (by decide) (by decide) rfl (by decide) (law_14 C h hH hl hlt next)
        · exact lv_tableIn (tgt := 786) (off := 753) hx hb dL_law_33 (by decide) (by decide) rfl (by decide) (law_15 C h hH hl hlt next)
        · exact lv_tableIn (tgt := 829) (off := 796) hx hb dL_law_33 (by decide) (by decide) rfl (by decide) (law_16 C h hH hl hlt next)
        · exact lv_tableIn (tgt := 862) (off := 829) hx hb dL_law_33 (by decide) (by decide) rfl (by decide) (law_17 C h hH hl hlt next)
        · exact lv_tableIn (tgt := 885) (off := 852) hx hb dL_law_33 (by decide) (by decide) rfl (by decide) (law_18 C h hH hl hlt next)
        · exact lv_tableIn (tgt := 908) (off := 875) hx hb dL_law_33 (by decide) (by decide) rfl (by decide) (law_19 C h hH hl hlt next)
        · exact lv_tableIn (tgt := 941) (off := 908) hx hb dL_law_33 (by decide) (by decide) rfl (by decide) (law_20 C h hH hl hlt next)
        · exact lv_tableIn (tgt := 974) (off := 941) hx hb dL_law_33 (by decide) (by decide) rfl (by decide) (law_21 C h hH hl hlt next)
        · exact lv_tableIn (tgt := 997) (off := 964) hx hb dL_law_33 (by decide) (by decide) rfl (by decide) (law_22 C h hH hl hlt next)
        · exact lv_tableIn (tgt := 1020) (off := 987) hx hb dL_law_33 (by decide) (by decide) rfl (by decide) (law_23 C h hH hl hlt next)
        · exact lv_tableIn (tgt := 1063) (off := 1030) hx hb dL_law_33 (by decide) (by decide) rfl (by decide) (law_24 C h hH hl hlt next)
        · exact lv_tableIn (tgt := 1076) (off := 1043) hx hb dL_law_33 (by decide) (by decide) rfl (by decide) (law_25 C h hH hl hlt next)
        · exact lv_tableIn (tgt := 1109) (off := 1076) hx hb dL_law_33 (by decide) (by decide) rfl (by decide) (law_26 C h hH hl hlt next)
        · exact lv_tableIn (tgt := 1142) (off := 1109) hx hb dL_law_33 (by decide) (by decide) rfl (by decide) (law_27 C h hH hl hlt next)
        · exact lv_tableIn (tgt := 1185) (off := 1152) hx hb dL_law_33 (by decide) (by decide) rfl (by decide) (law_28 C h hH hl hlt next)
        · exact lv_tableIn (tgt := 1218) (off := 1185) hx hb dL_law_33 (by decide) (by decide) rfl (by decide) (law_29 C h hH hl hlt next)
        · exact lv_tableIn (tgt := 1241) (off := 1208) hx hb dL_law_33 (by decide) (by decide) rfl (by decide) (law_30 C h hH hl hlt next)
        · exact lv_tableIn (tgt := 1264) (off := 1231) hx hb dL_law_33 (by decide) (by decide) rfl (by decide) (law_31 C h hH hl hlt next)
        · exact lv_tableIn (tgt := 1277) (off := 1244) hx hb dL_law_33 (by decide) (by decide) rfl (by decide) (law_32 C h hH hl hlt next)
        · exact lv_tableIn (tgt := 1310) (off := 1277) hx hb dL_law_33 (by decide) (by decide) rfl (by decide) (law_33 C h hH hl hlt next)
        · exact lv_tableIn (tgt := 1333) (off := 1300) hx hb dL_law_33 (by decide) (by decide) rfl (by decide) (law_34 C h hH hl hlt next)
        · exact lv_tableIn (tgt := 1376) (off := 1343) hx hb dL_law_33 (by decide) (by decide) rfl (by decide) (law_35 C h hH hl hlt next)
        · exact lv_tableIn (tgt := 1399) (off := 1366) hx hb dL_law_33 (by decide) (by decide) rfl (by decide) (law_36 C h hH hl hlt next)
        · exact lv_tableIn (tgt := 1412) (off := 1379) hx hb dL_law_33 (by decide) (by decide) rfl (by decide) (law_37 C h hH hl hlt next)
        · exact lv_tableIn (tgt := 1425) (off := 1392) hx hb dL_law_33 (by decide) (by decide) rfl (by decide) (law_38 C h hH hl hlt next)
      · refine lv_tableOut (tgt := 1448) hx hb dL_law_33 (Or.inr ?_) (by decide) (next G N σ τ H locs h hH)
        rw [t_nI (by omega)]
        omega
