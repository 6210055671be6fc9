/-! the law, case by case -/
section LAWCASES
variable {p : Program} {l : Launch} {e : Env} {s : State} {m : MethodId} {below : List Frame} {meth : Method} {c : Code} {cells slots : Nat} {Q : State → Prop} {b L i : Nat} {xs : Nat → Int32} {D : va_G} {ca : Nat → ClassId} {aX aM : Nat → Nat} {A0 : Nat → Prop} {H : Heap} {locs : List Loc} {ls : Array Slot}
set_option maxHeartbeats 2000000 in
theorem law_13 (C : LSt p s m meth c b L xs D ca aX aM A0 cells slots) {G N : Nat} {σ τ : xS} (h : RRn G N σ τ) (hH : LHp s D ca aX aM A0 σ τ H locs) (hl : LLs b i aX aM ls) (hi : i + 6 ≤ L) (next : ∀ (G' N' : Nat) (σ' τ' : xS) (H' : Heap) (locs' : List Loc), RRn G' N' σ' τ' → LHp s D ca aX aM A0 σ' τ' H' locs' → W p l e room_1 s m #[Value.ref b] below meth c H' locs' cells slots Q (F0 m 1448 ls [])) : W p l e room_1 s m #[Value.ref b] below meth c H locs cells slots Q (F0 m 750 ls []) := by
  obtain ⟨hx, hb, -⟩ := C.1
  refine lv_aload_n hx hb dL_law_750 rfl (lv_at hl 2 rfl) ?_
  refine larg (k := 1) C hH hl hi (by omega) (by decide) dL_law_751 dL_law_752 dL_law_753 dL_law_754 dL_law_755 ?_
  refine lcX (n := 1) (as' := [.int (xs (i + 1))]) (rest := []) C hH hl mX6_streets (pX6_streets_h h (xs (i + 1))) (fX6_streets_e (s := (xs (i + 1)))) rfl rfl rfl (by decide) (by decide) w_L_74 ⟨by decide, by decide, by decide +kernel⟩ rfl (Nat.le_of_ble_eq_true rfl) dL_law_756 (fun H1 locs1 hH1 => ?_)
  refine lv_aload_n hx hb dL_law_759 rfl (lv_at hl 3 rfl) ?_
  refine larg (k := 1) C hH1 hl hi (by omega) (by decide) dL_law_760 dL_law_761 dL_law_762 dL_law_763 dL_law_764 ?_
  refine lcM (n := 1) (as' := [.int (xs (i + 1))]) (rest := [_]) C hH1 hl mX7_streets (pX7_streets_h h (xs (i + 1))) (fX7_streets_e (s := (xs (i + 1)))) rfl rfl rfl (by decide) (by decide) w_L_77 ⟨by decide, by decide, by decide +kernel⟩ rfl (Nat.le_of_ble_eq_true rfl) dL_law_765 (fun H2 locs2 hH2 => ?_)
  obtain ⟨hq, G', N', h'⟩ := ok_streets h (xs (i + 1))
  refine lv_icmp_eq (tgt := 1448) hx hb dL_law_768 (by decide) (fun _ => ?_) (fun hne => absurd hq hne)
  exact next G' N' _ _ _ _ h' hH2
set_option maxHeartbeats 2000000 in
theorem law_14 (C : LSt p s m meth c b L xs D ca aX aM A0 cells slots) {G N : Nat} {σ τ : xS} (h : RRn G N σ τ) (hH : LHp s D ca aX aM A0 σ τ H locs) (hl : LLs b i aX aM ls) (hi : i + 6 ≤ L) (next : ∀ (G' N' : Nat) (σ' τ' : xS) (H' : Heap) (locs' : List Loc), RRn G' N' σ' τ' → LHp s D ca aX aM A0 σ' τ' H' locs' → W p l e room_1 s m #[Value.ref b] below meth c H' locs' cells slots Q (F0 m 1448 ls [])) : W p l e room_1 s m #[Value.ref b] below meth c H locs cells slots Q (F0 m 773 ls []) := by
  obtain ⟨hx, hb, -⟩ := C.1
  refine lv_aload_n hx hb dL_law_773 rfl (lv_at hl 2 rfl) ?_
  refine lcX (n := 0) (as' := []) (rest := []) C hH hl mX6_fault (pX6_fault_h h ) (fX6_fault_e ) rfl rfl rfl (by decide) (by decide) w_L_78 ⟨by decide, by decide, by decide +kernel⟩ rfl (Nat.le_of_ble_eq_true rfl) dL_law_774 (fun H1 locs1 hH1 => ?_)
  refine lv_aload_n hx hb dL_law_777 rfl (lv_at hl 3 rfl) ?_
  refine lcM (n := 0) (as' := []) (rest := [_]) C hH1 hl mX7_fault (pX7_fault_h h ) (fX7_fault_e ) rfl rfl rfl (by decide) (by decide) w_L_82 ⟨by decide, by decide, by decide +kernel⟩ rfl (Nat.le_of_ble_eq_true rfl) dL_law_778 (fun H2 locs2 hH2 => ?_)
  have hq := ok_fault h 
  refine lv_icmp_eq (tgt := 1448) hx hb dL_law_781 (by decide) (fun _ => ?_) (fun hne => absurd hq hne)
  exact next G N _ _ _ _ h hH2
set_option maxHeartbeats 2000000 in
theorem law_15 (C : LSt p s m meth c b L xs D ca aX aM A0 cells slots) {G N : Nat} {σ τ : xS} (h : RRn G N σ τ) (hH : LHp s D ca aX aM A0 σ τ H locs) (hl : LLs b i aX aM ls) (hi : i + 6 ≤ L) (next : ∀ (G' N' : Nat) (σ' τ' : xS) (H' : Heap) (locs' : List Loc), RRn G' N' σ' τ' → LHp s D ca aX aM A0 σ' τ' H' locs' → W p l e room_1 s m #[Value.ref b] below meth c H' locs' cells slots Q (F0 m 1448 ls [])) : W p l e room_1 s m #[Value.ref b] below meth c H locs cells slots Q (F0 m 786 ls []) := by
  obtain ⟨hx, hb, -⟩ := C.1
  refine lv_aload_n hx hb dL_law_786 rfl (lv_at hl 2 rfl) ?_
  refine larg (k := 1) C hH hl hi (by omega) (by decide) dL_law_787 dL_law_788 dL_law_789 dL_law_790 dL_law_791 ?_
  refine larg (k := 2) C hH hl hi (by omega) (by decide) dL_law_792 dL_law_793 dL_law_794 dL_law_795 dL_law_796 ?_
  refine larg (k := 3) C hH hl hi (by omega) (by decide) dL_law_797 dL_law_798 dL_law_799 dL_law_800 dL_law_801 ?_
  refine lcX (n := 3) (as' := [.int (xs (i + 1)), .int (xs (i + 2)), .int (xs (i + 3))]) (rest := []) C hH hl mX6_at (pX6_at_h h (xs (i + 1)) (xs (i + 2)) (xs (i + 3))) (fX6_at_e (n := (xs (i + 1))) (x := (xs (i + 2))) (y := (xs (i + 3)))) rfl rfl rfl (by decide) (by decide) w_L_83 ⟨by decide, by decide, by decide +kernel⟩ rfl (Nat.le_of_ble_eq_true rfl) dL_law_802 (fun H1 locs1 hH1 => ?_)
  refine lv_aload_n hx hb dL_law_805 rfl (lv_at hl 3 rfl) ?_
  refine larg (k := 1) C hH1 hl hi (by omega) (by decide) dL_law_806 dL_law_807 dL_law_808 dL_law_809 dL_law_810 ?_
  refine larg (k := 2) C hH1 hl hi (by omega) (by decide) dL_law_811 dL_law_812 dL_law_813 dL_law_814 dL_law_815 ?_
  refine larg (k := 3) C hH1 hl hi (by omega) (by decide) dL_law_816 dL_law_817 dL_law_818 dL_law_819 dL_law_820 ?_
  refine lcM (n := 3) (as' := [.int (xs (i + 1)), .int (xs (i + 2)), .int (xs (i + 3))]) (rest := [_]) C hH1 hl mX7_at (pX7_at_h h (xs (i + 1)) (xs (i + 2)) (xs (i + 3))) (fX7_at_e (n := (xs (i + 1))) (x := (xs (i + 2))) (y := (xs (i + 3)))) rfl rfl rfl (by decide) (by decide) w_L_86 ⟨by decide, by decide, by decide +kernel⟩ rfl (Nat.le_of_ble_eq_true rfl) dL_law_821 (fun H2 locs2 hH2 => ?_)
  obtain ⟨hq, G', N', h'⟩ := ok_at h (xs (i + 1)) (xs (i + 2)) (xs (i + 3))
  refine lv_icmp_eq (tgt := 1448) hx hb dL_law_824 (by decide) (fun _ => ?_) (fun hne => absurd hq hne)
  exact next G' N' _ _ _ _ h' hH2
set_option maxHeartbeats 2000000 in
theorem law_16 (C : LSt p s m meth c b L xs D ca aX aM A0 cells slots) {G N : Nat} {σ τ : xS} (h : RRn G N σ τ) (hH : LHp s D ca aX aM A0 σ τ H locs) (hl : LLs b i aX aM ls) (hi : i + 6 ≤ L) (next : ∀ (G' N' : Nat) (σ' τ' : xS) (H' : Heap) (locs' : List Loc), RRn G' N' σ' τ' → LHp s D ca aX aM A0 σ' τ' H' locs' → W p l e room_1 s m #[Value.ref b] below meth c H' locs' cells slots Q (F0 m 1448 ls [])) : W p l e room_1 s m #[Value.ref b] below meth c H locs cells slots Q (F0 m 829 ls []) := by
  obtain ⟨hx, hb, -⟩ := C.1
  refine lv_aload_n hx hb dL_law_829 rfl (lv_at hl 2 rfl) ?_
  refine larg (k := 1) C hH hl hi (by omega) (by decide) dL_law_830 dL_law_831 dL_law_832 dL_law_833 dL_law_834 ?_
  refine larg (k := 2) C hH hl hi (by omega) (by decide) dL_law_835 dL_law_836 dL_law_837 dL_law_838 dL_law_839 ?_
  refine lcX (n := 2) (as' := [.int (xs (i + 1)), .int (xs (i + 2))]) (rest := []) C hH hl mX6_have (pX6_have_h h (xs (i + 1)) (xs (i + 2))) (fX6_have_e (n := (xs (i + 1))) (g := (xs (i + 2)))) rfl rfl rfl (by decide) (by decide) w_L_87 ⟨by decide, by decide, by decide +kernel⟩ rfl (Nat.le_of_ble_eq_true rfl) dL_law_840 (fun H1 locs1 hH1 => ?_)
  refine lv_aload_n hx hb dL_law_843 rfl (lv_at hl 3 rfl) ?_
  refine larg (k := 1) C hH1 hl hi (by omega) (by decide) dL_law_844 dL_law_845 dL_law_846 dL_law_847 dL_law_848 ?_
  refine larg (k := 2) C hH1 hl hi (by omega) (by decide) dL_law_849 dL_law_850 dL_law_851 dL_law_852 dL_law_853 ?_
  refine lcM (n := 2) (as' := [.int (xs (i + 1)), .int (xs (i + 2))]) (rest := [_]) C hH1 hl mX7_have (pX7_have_h h (xs (i + 1)) (xs (i + 2))) (fX7_have_e (n := (xs (i + 1))) (g := (xs (i + 2)))) rfl rfl rfl (by decide) (by decide) w_L_90 ⟨by decide, by decide, by decide +kernel⟩ rfl (Nat.le_of_ble_eq_true rfl) dL_law_854 (fun H2 locs2 hH2 => ?_)
  obtain ⟨hq, G', N', h'⟩ := ok_have h (xs (i + 1)) (xs (i + 2))
  refine lv_icmp_eq (tgt := 1448) hx hb dL_law_857 (by decide) (fun _ => ?_) (fun hne => absurd hq hne)
  exact next G' N' _ _ _ _ h' hH2
set_option maxHeartbeats 2000000 in
theorem law_17 (C : LSt p s m meth c b L xs D ca aX aM A0 cells slots) {G N : Nat} {σ τ : xS} (h : RRn G N σ τ) (hH : LHp s D ca aX aM A0 σ τ H locs) (hl : LLs b i aX aM ls) (hi : i + 6 ≤ L) (next : ∀ (G' N' : Nat) (σ' τ' : xS) (H' : Heap) (locs' : List Loc), RRn G' N' σ' τ' → LHp s D ca aX aM A0 σ' τ' H' locs' → W p l e room_1 s m #[Value.ref b] below meth c H' locs' cells slots Q (F0 m 1448 ls [])) : W p l e room_1 s m #[Value.ref b] below meth c H locs cells slots Q (F0 m 862 ls []) := by
  obtain ⟨hx, hb, -⟩ := C.1
  refine lv_aload_n hx hb dL_law_862 rfl (lv_at hl 2 rfl) ?_
  refine larg (k := 1) C hH hl hi (by omega) (by decide) dL_law_863 dL_law_864 dL_law_865 dL_law_866 dL_law_867 ?_
  refine lcX (n := 1) (as' := [.int (xs (i + 1))]) (rest := []) C hH hl mX6_survives (pX6_survives_h h (xs (i + 1))) (fX6_survives_e (n := (xs (i + 1)))) rfl rfl rfl (by decide) (by decide) w_L_91 ⟨by decide, by decide, by decide +kernel⟩ rfl (Nat.le_of_ble_eq_true rfl) dL_law_868 (fun H1 locs1 hH1 => ?_)
  refine lv_aload_n hx hb dL_law_871 rfl (lv_at hl 3 rfl) ?_
  refine larg (k := 1) C hH1 hl hi (by omega) (by decide) dL_law_872 dL_law_873 dL_law_874 dL_law_875 dL_law_876 ?_
  refine lcM (n := 1) (as' := [.int (xs (i + 1))]) (rest := [_]) C hH1 hl mX7_survives (pX7_survives_h h (xs (i + 1))) (fX7_survives_e (n := (xs (i + 1)))) rfl rfl rfl (by decide) (by decide) w_L_94 ⟨by decide, by decide, by decide +kernel⟩ rfl (Nat.le_of_ble_eq_true rfl) dL_law_877 (fun H2 locs2 hH2 => ?_)
  obtain ⟨hq, G', N', h'⟩ := ok_survives h (xs (i + 1))
  refine lv_icmp_eq (tgt := 1448) hx hb dL_law_880 (by decide) (fun _ => ?_) (fun hne => absurd hq hne)
  exact next G' N' _ _ _ _ h' hH2
set_option maxHeartbeats 2000000 in
theorem law_18 (C : LSt p s m meth c b L xs D ca aX aM A0 cells slots) {G N : Nat} {σ τ : xS} (h : RRn G N σ τ) (hH : LHp s D ca aX aM A0 σ τ H locs) (hl : LLs b i aX aM ls) (hi : i + 6 ≤ L) (next : ∀ (G' N' : Nat) (σ' τ' : xS) (H' : Heap) (locs' : List Loc), RRn G' N' σ' τ' → LHp s D ca aX aM A0 σ' τ' H' locs' → W p l e room_1 s m #[Value.ref b] below meth c H' locs' cells slots Q (F0 m 1448 ls [])) : W p l e room_1 s m #[Value.ref b] below meth c H locs cells slots Q (F0 m 885 ls []) := by
  obtain ⟨hx, hb, -⟩ := C.1
  refine lv_aload_n hx hb dL_law_885 rfl (lv_at hl 2 rfl) ?_
  refine larg (k := 1) C hH hl hi (by omega) (by decide) dL_law_886 dL_law_887 dL_law_888 dL_law_889 dL_law_890 ?_
  refine lcX (n := 1) (as' := [.int (xs (i + 1))]) (rest := []) C hH hl mX6_lost (pX6_lost_h h (xs (i + 1))) (fX6_lost_e (g := (xs (i + 1)))) rfl rfl rfl (by decide) (by decide) w_L_95 ⟨by decide, by decide, by decide +kernel⟩ rfl (Nat.le_of_ble_eq_true rfl) dL_law_891 (fun H1 locs1 hH1 => ?_)
  refine lv_aload_n hx hb dL_law_894 rfl (lv_at hl 3 rfl) ?_
  refine larg (k := 1) C hH1 hl hi (by omega) (by decide) dL_law_895 dL_law_896 dL_law_897 dL_law_898 dL_law_899 ?_
  refine lcM (n := 1) (as' := [.int (xs (i + 1))]) (rest := [_]) C hH1 hl mX7_lost (pX7_lost_h h (xs (i + 1))) (fX7_lost_e (g := (xs (i + 1)))) rfl rfl rfl (by decide) (by decide) w_L_98 ⟨by decide, by decide, by decide +kernel⟩ rfl (Nat.le_of_ble_eq_true rfl) dL_law_900 (fun H2 locs2 hH2 => ?_)
  obtain ⟨hq, G', N', h'⟩ := ok_lost h (xs (i + 1))
  refine lv_icmp_eq (tgt := 1448) hx hb dL_law_903 (by decide) (fun _ => ?_) (fun hne => absurd hq hne)
  exact next G' N' _ _ _ _ h' hH2
set_option maxHeartbeats 2000000 in
theorem law_19 (C : LSt p s m meth c b L xs D ca aX aM A0 cells slots) {G N : Nat} {σ τ : xS} (h : RRn G N σ τ) (hH : LHp s D ca aX aM A0 σ τ H locs) (hl : LLs b i aX aM ls) (hi : i + 6 ≤ L) (next : ∀ (G' N' : Nat) (σ' τ' : xS) (H' : Heap) (locs' : List Loc), RRn G' N' σ' τ' → LHp s D ca aX aM A0 σ' τ' H' locs' → W p l e room_1 s m #[Value.ref b] below meth c H' locs' cells slots Q (F0 m 1448 ls [])) : W p l e room_1 s m #[Value.ref b] below meth c H locs cells slots Q (F0 m 908 ls []) := by
  obtain ⟨hx, hb, -⟩ := C.1
  refine lv_aload_n hx hb dL_law_908 rfl (lv_at hl 2 rfl) ?_
  refine larg (k := 1) C hH hl hi (by omega) (by decide) dL_law_909 dL_law_910 dL_law_911 dL_law_912 dL_law_913 ?_
  refine larg (k := 2) C hH hl hi (by omega) (by decide) dL_law_914 dL_law_915 dL_law_916 dL_law_917 dL_law_918 ?_
  refine lcX (n := 2) (as' := [.int (xs (i + 1)), .int (xs (i + 2))]) (rest := []) C hH hl mX6_comes (pX6_comes_h h (xs (i + 1)) (xs (i + 2))) (fX6_comes_e (g := (xs (i + 1))) (x := (xs (i + 2)))) rfl rfl rfl (by decide) (by decide) w_L_99 ⟨by decide, by decide, by decide +kernel⟩ rfl (Nat.le_of_ble_eq_true rfl) dL_law_919 (fun H1 locs1 hH1 => ?_)
  refine lv_aload_n hx hb dL_law_922 rfl (lv_at hl 3 rfl) ?_
  refine larg (k := 1) C hH1 hl hi (by omega) (by decide) dL_law_923 dL_law_924 dL_law_925 dL_law_926 dL_law_927 ?_
  refine larg (k := 2) C hH1 hl hi (by omega) (by decide) dL_law_928 dL_law_929 dL_law_930 dL_law_931 dL_law_932 ?_
  refine lcM (n := 2) (as' := [.int (xs (i + 1)), .int (xs (i + 2))]) (rest := [_]) C hH1 hl mX7_comes (pX7_comes_h h (xs (i + 1)) (xs (i + 2))) (fX7_comes_e (g := (xs (i + 1))) (x := (xs (i + 2)))) rfl rfl rfl (by decide) (by decide) w_L_102 ⟨by decide, by decide, by decide +kernel⟩ rfl (Nat.le_of_ble_eq_true rfl) dL_law_933 (fun H2 locs2 hH2 => ?_)
  obtain ⟨hq, G', N', h'⟩ := ok_comes h (xs (i + 1)) (xs (i + 2))
  refine lv_icmp_eq (tgt := 1448) hx hb dL_law_936 (by decide) (fun _ => ?_) (fun hne => absurd hq hne)
  exact next G' N' _ _ _ _ h' hH2
set_option maxHeartbeats 2000000 in
theorem law_20 (C : LSt p s m meth c b L xs D ca aX aM A0 cells slots) {G N : Nat} {σ τ : xS} (h : RRn G N σ τ) (hH : LHp s D ca aX aM A0 σ τ H locs) (hl : LLs b i aX aM ls) (hi : i + 6 ≤ L) (next : ∀ (G' N' : Nat) (σ' τ' : xS) (H' : Heap) (locs' : List Loc), RRn G' N' σ' τ' → LHp s D ca aX aM A0 σ' τ' H' locs' → W p l e room_1 s m #[Value.ref b] below meth c H' locs' cells slots Q (F0 m 1448 ls [])) : W p l e room_1 s m #[Value.ref b] below meth c H locs cells slots Q (F0 m 941 ls []) := by
  obtain ⟨hx, hb, -⟩ := C.1
  refine lv_aload_n hx hb dL_law_941 rfl (lv_at hl 2 rfl) ?_
  refine larg (k := 1) C hH hl hi (by omega) (by decide) dL_law_942 dL_law_943 dL_law_944 dL_law_945 dL_law_946 ?_
  refine larg (k := 2) C hH hl hi (by omega) (by decide) dL_law_947 dL_law_948 dL_law_949 dL_law_950 dL_law_951 ?_
  refine lcX (n := 2) (as' := [.int (xs (i + 1)), .int (xs (i + 2))]) (rest := []) C hH hl mX6_meet (pX6_meet_h h (xs (i + 1)) (xs (i + 2))) (fX6_meet_e (x := (xs (i + 1))) (y := (xs (i + 2)))) rfl rfl rfl (by decide) (by decide) w_L_103 ⟨by decide, by decide, by decide +kernel⟩ rfl (Nat.le_of_ble_eq_true rfl) dL_law_952 (fun H1 locs1 hH1 => ?_)
  refine lv_aload_n hx hb dL_law_955 rfl (lv_at hl 3 rfl) ?_
  refine larg (k := 1) C hH1 hl hi (by omega) (by decide) dL_law_956 dL_law_957 dL_law_958 dL_law_959 dL_law_960 ?_
  refine larg (k := 2) C hH1 hl hi (by omega) (by decide) dL_law_961 dL_law_962 dL_law_963 dL_law_964 dL_law_965 ?_
  refine lcM (n := 2) (as' := [.int (xs (i + 1)), .int (xs (i + 2))]) (rest := [_]) C hH1 hl mX7_meet (pX7_meet_h h (xs (i + 1)) (xs (i + 2))) (fX7_meet_e (x := (xs (i + 1))) (y := (xs (i + 2)))) rfl rfl rfl (by decide) (by decide) w_L_106 ⟨by decide, by decide, by decide +kernel⟩ rfl (Nat.le_of_ble_eq_true rfl) dL_law_966 (fun H2 locs2 hH2 => ?_)
  obtain ⟨hq, G', N', h'⟩ := ok_meet h (xs (i + 1)) (xs (i + 2))
  refine lv_icmp_eq (tgt := 1448) hx hb dL_law_969 (by decide) (fun _ => ?_) (fun hne => absurd hq hne)
  exact next G' N' _ _ _ _ h' hH2
set_option maxHeartbeats 2000000 in
theorem law_21 (C : LSt p s m meth c b L xs D ca aX aM A0 cells slots) {G N : Nat} {σ τ : xS} (h : RRn G N σ τ) (hH : LHp s D ca aX aM A0 σ τ H locs) (hl : LLs b i aX aM ls) (hi : i + 6 ≤ L) (next : ∀ (G' N' : Nat) (σ' τ' : xS) (H' : Heap) (locs' : List Loc), RRn G' N' σ' τ' → LHp s D ca aX aM A0 σ' τ' H' locs' → W p l e room_1 s m #[Value.ref b] below meth c H' locs' cells slots Q (F0 m 1448 ls [])) : W p l e room_1 s m #[Value.ref b] below meth c H locs cells slots Q (F0 m 974 ls []) := by
  obtain ⟨hx, hb, -⟩ := C.1
  refine lv_aload_n hx hb dL_law_974 rfl (lv_at hl 2 rfl) ?_
  refine larg (k := 1) C hH hl hi (by omega) (by decide) dL_law_975 dL_law_976 dL_law_977 dL_law_978 dL_law_979 ?_
  refine lcX (n := 1) (as' := [.int (xs (i + 1))]) (rest := []) C hH hl mX6_meetings (pX6_meetings_h h (xs (i + 1))) (fX6_meetings_e (n := (xs (i + 1)))) rfl rfl rfl (by decide) (by decide) w_L_107 ⟨by decide, by decide, by decide +kernel⟩ rfl (Nat.le_of_ble_eq_true rfl) dL_law_980 (fun H1 locs1 hH1 => ?_)
  refine lv_aload_n hx hb dL_law_983 rfl (lv_at hl 3 rfl) ?_
  refine larg (k := 1) C hH1 hl hi (by omega) (by decide) dL_law_984 dL_law_985 dL_law_986 dL_law_987 dL_law_988 ?_
  refine lcM (n := 1) (as' := [.int (xs (i + 1))]) (rest := [_]) C hH1 hl mX7_meetings (pX7_meetings_h h (xs (i + 1))) (fX7_meetings_e (n := (xs (i + 1)))) rfl rfl rfl (by decide) (by decide) w_L_110 ⟨by decide, by decide, by decide +kernel⟩ rfl (Nat.le_of_ble_eq_true rfl) dL_law_989 (fun H2 locs2 hH2 => ?_)
  obtain ⟨hq, G', N', h'⟩ := ok_meetings h (xs (i + 1))
  refine lv_icmp_eq (tgt := 1448) hx hb dL_law_992 (by decide) (fun _ => ?_) (fun hne => absurd hq hne)
  exact next G' N' _ _ _ _ h' hH2
set_option maxHeartbeats 2000000 in
theorem law_22 (C : LSt p s m meth c b L xs D ca aX aM A0 cells slots) {G N : Nat} {σ τ : xS} (h : RRn G N σ τ) (hH : LHp s D ca aX aM A0 σ τ H locs) (hl : LLs b i aX aM ls) (hi : i + 6 ≤ L) (next : ∀ (G' N' : Nat) (σ' τ' : xS) (H' : Heap) (locs' : List Loc), RRn G' N' σ' τ' → LHp s D ca aX aM A0 σ' τ' H' locs' → W p l e room_1 s m #[Value.ref b] below meth c H' locs' cells slots Q (F0 m 1448 ls [])) : W p l e room_1 s m #[Value.ref b] below meth c H locs cells slots Q (F0 m 997 ls []) := by
  obtain ⟨hx, hb, -⟩ := C.1
  refine lv_aload_n hx hb dL_law_997 rfl (lv_at hl 2 rfl) ?_
  refine larg (k := 1) C hH hl hi (by omega) (by decide) dL_law_998 dL_law_999 dL_law_1000 dL_law_1001 dL_law_1002 ?_
  refine lcX (n := 1) (as' := [.int (xs (i + 1))]) (rest := []) C hH hl mX6_ring (pX6_ring_h h (xs (i + 1))) (fX6_ring_e (x := (xs (i + 1)))) rfl rfl rfl (by decide) (by decide) w_L_111 ⟨by decide, by decide, by decide +kernel⟩ rfl (Nat.le_of_ble_eq_true rfl) dL_law_1003 (fun H1 locs1 hH1 => ?_)
  refine lv_aload_n hx hb dL_law_1006 rfl (lv_at hl 3 rfl) ?_
  refine larg (k := 1) C hH1 hl hi (by omega) (by decide) dL_law_1007 dL_law_1008 dL_law_1009 dL_law_1010 dL_law_1011 ?_
  refine lcM (n := 1) (as' := [.int (xs (i + 1))]) (rest := [_]) C hH1 hl mX7_ring (pX7_ring_h h (xs (i + 1))) (fX7_ring_e (x := (xs (i + 1)))) rfl rfl rfl (by decide) (by decide) w_L_114 ⟨by decide, by decide, by decide +kernel⟩ rfl (Nat.le_of_ble_eq_true rfl) dL_law_1012 (fun H2 locs2 hH2 => ?_)
  obtain ⟨hq, G', N', h'⟩ := ok_ring h (xs (i + 1))
  refine lv_icmp_eq (tgt := 1448) hx hb dL_law_1015 (by decide) (fun _ => ?_) (fun hne => absurd hq hne)
  exact next G' N' _ _ _ _ h' hH2
set_option maxHeartbeats 2000000 in
theorem law_23 (C : LSt p s m meth c b L xs D ca aX aM A0 cells slots) {G N : Nat} {σ τ : xS} (h : RRn G N σ τ) (hH : LHp s D ca aX aM A0 σ τ H locs) (hl : LLs b i aX aM ls) (hi : i + 6 ≤ L) (next : ∀ (G' N' : Nat) (σ' τ' : xS) (H' : Heap) (locs' : List Loc), RRn G' N' σ' τ' → LHp s D ca aX aM A0 σ' τ' H' locs' → W p l e room_1 s m #[Value.ref b] below meth c H' locs' cells slots Q (F0 m 1448 ls [])) : W p l e room_1 s m #[Value.ref b] below meth c H locs cells slots Q (F0 m 1020 ls []) := by
  obtain ⟨hx, hb, -⟩ := C.1
  refine lv_aload_n hx hb dL_law_1020 rfl (lv_at hl 2 rfl) ?_
  refine larg (k := 1) C hH hl hi (by omega) (by decide) dL_law_1021 dL_law_1022 dL_law_1023 dL_law_1024 dL_law_1025 ?_
  refine larg (k := 2) C hH hl hi (by omega) (by decide) dL_law_1026 dL_law_1027 dL_law_1028 dL_law_1029 dL_law_1030 ?_
  refine larg (k := 3) C hH hl hi (by omega) (by decide) dL_law_1031 dL_law_1032 dL_law_1033 dL_law_1034 dL_law_1035 ?_
  refine lcX (n := 3) (as' := [.int (xs (i + 1)), .int (xs (i + 2)), .int (xs (i + 3))]) (rest := []) C hH hl mX6_alone (pX6_alone_h h (xs (i + 1)) (xs (i + 2)) (xs (i + 3))) (fX6_alone_e (n := (xs (i + 1))) (x := (xs (i + 2))) (y := (xs (i + 3)))) rfl rfl rfl (by decide) (by decide) w_L_115 ⟨by decide, by decide, by decide +kernel⟩ rfl (Nat.le_of_ble_eq_true rfl) dL_law_1036 (fun H1 locs1 hH1 => ?_)
  refine lv_aload_n hx hb dL_law_1039 rfl (lv_at hl 3 rfl) ?_
  refine larg (k := 1) C hH1 hl hi (by omega) (by decide) dL_law_1040 dL_law_1041 dL_law_1042 dL_law_1043 dL_law_1044 ?_
  refine larg (k := 2) C hH1 hl hi (by omega) (by decide) dL_law_1045 dL_law_1046 dL_law_1047 dL_law_1048 dL_law_1049 ?_
  refine larg (k := 3) C hH1 hl hi (by omega) (by decide) dL_law_1050 dL_law_1051 dL_law_1052 dL_law_1053 dL_law_1054 ?_
  refine lcM (n := 3) (as' := [.int (xs (i + 1)), .int (xs (i + 2)), .int (xs (i + 3))]) (rest := [_]) C hH1 hl mX7_alone (pX7_alone_h h (xs (i + 1)) (xs (i + 2)) (xs (i + 3))) (fX7_alone_e (n := (xs (i + 1))) (x := (xs (i + 2))) (y := (xs (i + 3)))) rfl rfl rfl (by decide) (by decide) w_L_118 ⟨by decide, by decide, by decide +kernel⟩ rfl (Nat.le_of_ble_eq_true rfl) dL_law_1055 (fun H2 locs2 hH2 => ?_)
  obtain ⟨hq, G', N', h'⟩ := ok_alone h (xs (i + 1)) (xs (i + 2)) (xs (i + 3))
  refine lv_icmp_eq (tgt := 1448) hx hb dL_law_1058 (by decide) (fun _ => ?_) (fun hne => absurd hq hne)
  exact next G' N' _ _ _ _ h' hH2
set_option maxHeartbeats 2000000 in
theorem law_24 (C : LSt p s m meth c b L xs D ca aX aM A0 cells slots) {G N : Nat} {σ τ : xS} (h : RRn G N σ τ) (hH : LHp s D ca aX aM A0 σ τ H locs) (hl : LLs b i aX aM ls) (hi : i + 6 ≤ L) (next : ∀ (G' N' : Nat) (σ' τ' : xS) (H' : Heap) (locs' : List Loc), RRn G' N' σ' τ' → LHp s D ca aX aM A0 σ' τ' H' locs' → W p l e room_1 s m #[Value.ref b] below meth c H' locs' cells slots Q (F0 m 1448 ls [])) : W p l e room_1 s m #[Value.ref b] below meth c H locs cells slots Q (F0 m 1063 ls []) := by
  obtain ⟨hx, hb, -⟩ := C.1
  refine lv_aload_n hx hb dL_law_1063 rfl (lv_at hl 2 rfl) ?_
  refine lcX (n := 0) (as' := []) (rest := []) C hH hl mX6_alike (pX6_alike_h h ) (fX6_alike_e ) rfl rfl rfl (by decide) (by decide) w_L_119 ⟨by decide, by decide, by decide +kernel⟩ rfl (Nat.le_of_ble_eq_true rfl) dL_law_1064 (fun H1 locs1 hH1 => ?_)
  refine lv_aload_n hx hb dL_law_1067 rfl (lv_at hl 3 rfl) ?_
  refine lcM (n := 0) (as' := []) (rest := [_]) C hH1 hl mX7_alike (pX7_alike_h h ) (fX7_alike_e ) rfl rfl rfl (by decide) (by decide) w_L_122 ⟨by decide, by decide, by decide +kernel⟩ rfl (Nat.le_of_ble_eq_true rfl) dL_law_1068 (fun H2 locs2 hH2 => ?_)
  obtain ⟨hq, G', N', h'⟩ := ok_alike h 
  refine lv_icmp_eq (tgt := 1448) hx hb dL_law_1071 (by decide) (fun _ => ?_) (fun hne => absurd hq hne)
  exact next G' N' _ _ _ _ h' hH2
set_option maxHeartbeats 2000000 in
theorem law_25 (C : LSt p s m meth c b L xs D ca aX aM A0 cells slots) {G N : Nat} {σ τ : xS} (h : RRn G N σ τ) (hH : LHp s D ca aX aM A0 σ τ H locs) (hl : LLs b i aX aM ls) (hi : i + 6 ≤ L) (next : ∀ (G' N' : Nat) (σ' τ' : xS) (H' : Heap) (locs' : List Loc), RRn G' N' σ' τ' → LHp s D ca aX aM A0 σ' τ' H' locs' → W p l e room_1 s m #[Value.ref b] below meth c H' locs' cells slots Q (F0 m 1448 ls [])) : W p l e room_1 s m #[Value.ref b] below meth c H locs cells slots Q (F0 m 1076 ls []) := by
  obtain ⟨hx, hb, -⟩ := C.1
  refine lv_aload_n hx hb dL_law_1076 rfl (lv_at hl 2 rfl) ?_
  refine larg (k := 1) C hH hl hi (by omega) (by decide) dL_law_1077 dL_law_1078 dL_law_1079 dL_law_1080 dL_law_1081 ?_
  refine larg (k := 2) C hH hl hi (by omega) (by decide) dL_law_1082 dL_law_1083 dL_law_1084 dL_law_1085 dL_law_1086 ?_
  refine lcX (n := 2) (as' := [.int (xs (i + 1)), .int (xs (i + 2))]) (rest := []) C hH hl mX6_hire (pX6_hire_h h (xs (i + 1)) (xs (i + 2))) (fX6_hire_e (g := (xs (i + 1))) (x := (xs (i + 2)))) rfl rfl rfl (by decide) (by decide) w_L_123 ⟨by decide, by decide, by decide +kernel⟩ rfl (Nat.le_of_ble_eq_true rfl) dL_law_1087 (fun H1 locs1 hH1 => ?_)
  refine lv_aload_n hx hb dL_law_1090 rfl (lv_at hl 3 rfl) ?_
  refine larg (k := 1) C hH1 hl hi (by omega) (by decide) dL_law_1091 dL_law_1092 dL_law_1093 dL_law_1094 dL_law_1095 ?_
  refine larg (k := 2) C hH1 hl hi (by omega) (by decide) dL_law_1096 dL_law_1097 dL_law_1098 dL_law_1099 dL_law_1100 ?_
  refine lcM (n := 2) (as' := [.int (xs (i + 1)), .int (xs (i + 2))]) (rest := [_]) C hH1 hl mX7_hire (pX7_hire_h h (xs (i + 1)) (xs (i + 2))) (fX7_hire_e (g := (xs (i + 1))) (x := (xs (i + 2)))) rfl rfl rfl (by decide) (by decide) w_L_126 ⟨by decide, by decide, by decide +kernel⟩ rfl (Nat.le_of_ble_eq_true rfl) dL_law_1101 (fun H2 locs2 hH2 => ?_)
  obtain ⟨hq, G', N', h'⟩ := ok_hire h (xs (i + 1)) (xs (i + 2))
  refine lv_icmp_eq (tgt := 1448) hx hb dL_law_1104 (by decide) (fun _ => ?_) (fun hne => absurd hq hne)
  exact next G' N' _ _ _ _ h' hH2
end LAWCASES
