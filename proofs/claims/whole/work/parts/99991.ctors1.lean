/-! CONSTRUCTORS, walked (gen_ctor.py) -/

set_option maxRecDepth 200000 in
theorem oi_X1 : ∀ x ∈ [Jvm.Cond.methodLink RX1 3 objectInit], x ∈ xBig := xBig_of (by decide +kernel)
set_option maxHeartbeats 4000000 in
set_option maxRecDepth 100000 in
theorem mX1_init : iMet yX1_init cX1_init 1 1 3 0 0 [] (fun _ z w => w = [oB z 1 [.int 0, .int 0, .int 0]]) := by
  refine iMet_of (lv := fun z => [(0, .ref z)]) (by decide +kernel) (fun _ => rfl) (Nat.le_of_ble_eq_true rfl) (fun _ => rfl) ?_
  intro p l e s m args below meth c D ca z A ls C hr hlocks hin hH hl
  have C : cCx p _ s m args meth c cX1_init RX1 1 D ca A := C
  obtain ⟨⟨hx, hb, hml, hown, hts⟩, hK, hA, hF⟩ := id C
  have hl : lv_has ls 1 [(0, .ref z)] := hl
  have hH : cH s D A (oB z 1 [.int 0, .int 0, .int 0] :: []) s.heap [] := hH
  refine lv_aload_n hx hb dX1_init_0 rfl (lv_at hl 0 rfl) ?_
  refine cobj C (oi_X1 _ List.mem_cons_self) hl.1 (Nat.le_of_ble_eq_true rfl) (Nat.le_of_ble_eq_true rfl) (Nat.le_of_ble_eq_true rfl) dX1_init_1 ?_
  refine lv_aload_n hx hb dX1_init_4 rfl (lv_at hl 0 rfl) ?_
  refine lv_iconst (v := (0)) hx hb dX1_init_5 (by decide) ?_
  refine cput (ci := 1) (f := 0) C hin hH (by decide) (by decide) rfl rfl rfl (Nat.le_of_ble_eq_true rfl) (fk_in fldX1_ok fl_X1_9 (by decide)) rfl dX1_init_6 (fun H locs hH => ?_)
  have hH : cH s D A (oB z 1 [.int 0, .int 0, .int 0] :: []) H locs := hH
  refine lv_aload_n hx hb dX1_init_9 rfl (lv_at hl 0 rfl) ?_
  refine lv_iconst (v := (0)) hx hb dX1_init_10 (by decide) ?_
  refine cput (ci := 1) (f := 1) C hin hH (by decide) (by decide) rfl rfl rfl (Nat.le_of_ble_eq_true rfl) (fk_in fldX1_ok fl_X1_15 (by decide)) rfl dX1_init_11 (fun H locs hH => ?_)
  have hH : cH s D A (oB z 1 [.int 0, .int 0, .int 0] :: []) H locs := hH
  refine lv_aload_n hx hb dX1_init_14 rfl (lv_at hl 0 rfl) ?_
  refine lv_iconst (v := (0)) hx hb dX1_init_15 (by decide) ?_
  refine cput (ci := 1) (f := 2) C hin hH (by decide) (by decide) rfl rfl rfl (Nat.le_of_ble_eq_true rfl) (fk_in fldX1_ok fl_X1_18 (by decide)) rfl dX1_init_16 (fun H locs hH => ?_)
  have hH : cH s D A (oB z 1 [.int 0, .int 0, .int 0] :: []) H locs := hH
  exact cret C hr hlocks hH (rfl) (Nat.le_of_ble_eq_true rfl) (Nat.le_of_ble_eq_true rfl) dX1_init_19

set_option maxRecDepth 200000 in
theorem oi_X5 : ∀ x ∈ [Jvm.Cond.methodLink RX5 3 objectInit], x ∈ xBig := xBig_of (by decide +kernel)
set_option maxHeartbeats 4000000 in
set_option maxRecDepth 100000 in
theorem mX5_init : iMet yX5_init cX5_init 1 5 3 0 0 [] (fun _ z w => w = [oB z 5 [.int 0, .int 0, .int 0, .int 0, .int 0, .int 0, .int 0, .int 0, .int 0, .int 0, .int 0, .int 0]]) := by
  refine iMet_of (lv := fun z => [(0, .ref z)]) (by decide +kernel) (fun _ => rfl) (Nat.le_of_ble_eq_true rfl) (fun _ => rfl) ?_
  intro p l e s m args below meth c D ca z A ls C hr hlocks hin hH hl
  have C : cCx p _ s m args meth c cX5_init RX5 1 D ca A := C
  obtain ⟨⟨hx, hb, hml, hown, hts⟩, hK, hA, hF⟩ := id C
  have hl : lv_has ls 1 [(0, .ref z)] := hl
  have hH : cH s D A (oB z 5 [.int 0, .int 0, .int 0, .int 0, .int 0, .int 0, .int 0, .int 0, .int 0, .int 0, .int 0, .int 0] :: []) s.heap [] := hH
  refine lv_aload_n hx hb dX5_init_0 rfl (lv_at hl 0 rfl) ?_
  refine cobj C (oi_X5 _ List.mem_cons_self) hl.1 (Nat.le_of_ble_eq_true rfl) (Nat.le_of_ble_eq_true rfl) (Nat.le_of_ble_eq_true rfl) dX5_init_1 ?_
  refine lv_aload_n hx hb dX5_init_4 rfl (lv_at hl 0 rfl) ?_
  refine lv_iconst (v := (0)) hx hb dX5_init_5 (by decide) ?_
  refine cput (ci := 5) (f := 0) C hin hH (by decide) (by decide) rfl rfl rfl (Nat.le_of_ble_eq_true rfl) (fk_in fldX5_ok fl_X5_9 (by decide)) rfl dX5_init_6 (fun H locs hH => ?_)
  have hH : cH s D A (oB z 5 [.int 0, .int 0, .int 0, .int 0, .int 0, .int 0, .int 0, .int 0, .int 0, .int 0, .int 0, .int 0] :: []) H locs := hH
  refine lv_aload_n hx hb dX5_init_9 rfl (lv_at hl 0 rfl) ?_
  refine lv_iconst (v := (0)) hx hb dX5_init_10 (by decide) ?_
  refine cput (ci := 5) (f := 1) C hin hH (by decide) (by decide) rfl rfl rfl (Nat.le_of_ble_eq_true rfl) (fk_in fldX5_ok fl_X5_15 (by decide)) rfl dX5_init_11 (fun H locs hH => ?_)
  have hH : cH s D A (oB z 5 [.int 0, .int 0, .int 0, .int 0, .int 0, .int 0, .int 0, .int 0, .int 0, .int 0, .int 0, .int 0] :: []) H locs := hH
  refine lv_aload_n hx hb dX5_init_14 rfl (lv_at hl 0 rfl) ?_
  refine lv_iconst (v := (0)) hx hb dX5_init_15 (by decide) ?_
  refine cput (ci := 5) (f := 2) C hin hH (by decide) (by decide) rfl rfl rfl (Nat.le_of_ble_eq_true rfl) (fk_in fldX5_ok fl_X5_18 (by decide)) rfl dX5_init_16 (fun H locs hH => ?_)
  have hH : cH s D A (oB z 5 [.int 0, .int 0, .int 0, .int 0, .int 0, .int 0, .int 0, .int 0, .int 0, .int 0, .int 0, .int 0] :: []) H locs := hH
  refine lv_aload_n hx hb dX5_init_19 rfl (lv_at hl 0 rfl) ?_
  refine lv_iconst (v := (0)) hx hb dX5_init_20 (by decide) ?_
  refine cput (ci := 5) (f := 3) C hin hH (by decide) (by decide) rfl rfl rfl (Nat.le_of_ble_eq_true rfl) (fk_in fldX5_ok fl_X5_21 (by decide)) rfl dX5_init_21 (fun H locs hH => ?_)
  have hH : cH s D A (oB z 5 [.int 0, .int 0, .int 0, .int 0, .int 0, .int 0, .int 0, .int 0, .int 0, .int 0, .int 0, .int 0] :: []) H locs := hH
  refine lv_aload_n hx hb dX5_init_24 rfl (lv_at hl 0 rfl) ?_
  refine lv_iconst (v := (0)) hx hb dX5_init_25 (by decide) ?_
  refine cput (ci := 5) (f := 4) C hin hH (by decide) (by decide) rfl rfl rfl (Nat.le_of_ble_eq_true rfl) (fk_in fldX5_ok fl_X5_24 (by decide)) rfl dX5_init_26 (fun H locs hH => ?_)
  have hH : cH s D A (oB z 5 [.int 0, .int 0, .int 0, .int 0, .int 0, .int 0, .int 0, .int 0, .int 0, .int 0, .int 0, .int 0] :: []) H locs := hH
  refine lv_aload_n hx hb dX5_init_29 rfl (lv_at hl 0 rfl) ?_
  refine lv_iconst (v := (0)) hx hb dX5_init_30 (by decide) ?_
  refine cput (ci := 5) (f := 5) C hin hH (by decide) (by decide) rfl rfl rfl (Nat.le_of_ble_eq_true rfl) (fk_in fldX5_ok fl_X5_27 (by decide)) rfl dX5_init_31 (fun H locs hH => ?_)
  have hH : cH s D A (oB z 5 [.int 0, .int 0, .int 0, .int 0, .int 0, .int 0, .int 0, .int 0, .int 0, .int 0, .int 0, .int 0] :: []) H locs := hH
  refine lv_aload_n hx hb dX5_init_34 rfl (lv_at hl 0 rfl) ?_
  refine lv_iconst (v := (0)) hx hb dX5_init_35 (by decide) ?_
  refine cput (ci := 5) (f := 6) C hin hH (by decide) (by decide) rfl rfl rfl (Nat.le_of_ble_eq_true rfl) (fk_in fldX5_ok fl_X5_30 (by decide)) rfl dX5_init_36 (fun H locs hH => ?_)
  have hH : cH s D A (oB z 5 [.int 0, .int 0, .int 0, .int 0, .int 0, .int 0, .int 0, .int 0, .int 0, .int 0, .int 0, .int 0] :: []) H locs := hH
  refine lv_aload_n hx hb dX5_init_39 rfl (lv_at hl 0 rfl) ?_
  refine lv_iconst (v := (0)) hx hb dX5_init_40 (by decide) ?_
  refine cput (ci := 5) (f := 7) C hin hH (by decide) (by decide) rfl rfl rfl (Nat.le_of_ble_eq_true rfl) (fk_in fldX5_ok fl_X5_33 (by decide)) rfl dX5_init_41 (fun H locs hH => ?_)
  have hH : cH s D A (oB z 5 [.int 0, .int 0, .int 0, .int 0, .int 0, .int 0, .int 0, .int 0, .int 0, .int 0, .int 0, .int 0] :: []) H locs := hH
  refine lv_aload_n hx hb dX5_init_44 rfl (lv_at hl 0 rfl) ?_
  refine lv_iconst (v := (0)) hx hb dX5_init_45 (by decide) ?_
  refine cput (ci := 5) (f := 8) C hin hH (by decide) (by decide) rfl rfl rfl (Nat.le_of_ble_eq_true rfl) (fk_in fldX5_ok fl_X5_37 (by decide)) rfl dX5_init_46 (fun H locs hH => ?_)
  have hH : cH s D A (oB z 5 [.int 0, .int 0, .int 0, .int 0, .int 0, .int 0, .int 0, .int 0, .int 0, .int 0, .int 0, .int 0] :: []) H locs := hH
  refine lv_aload_n hx hb dX5_init_49 rfl (lv_at hl 0 rfl) ?_
  refine lv_iconst (v := (0)) hx hb dX5_init_50 (by decide) ?_
  refine cput (ci := 5) (f := 9) C hin hH (by decide) (by decide) rfl rfl rfl (Nat.le_of_ble_eq_true rfl) (fk_in fldX5_ok fl_X5_40 (by decide)) rfl dX5_init_51 (fun H locs hH => ?_)
  have hH : cH s D A (oB z 5 [.int 0, .int 0, .int 0, .int 0, .int 0, .int 0, .int 0, .int 0, .int 0, .int 0, .int 0, .int 0] :: []) H locs := hH
  refine lv_aload_n hx hb dX5_init_54 rfl (lv_at hl 0 rfl) ?_
  refine lv_iconst (v := (0)) hx hb dX5_init_55 (by decide) ?_
  refine cput (ci := 5) (f := 10) C hin hH (by decide) (by decide) rfl rfl rfl (Nat.le_of_ble_eq_true rfl) (fk_in fldX5_ok fl_X5_43 (by decide)) rfl dX5_init_56 (fun H locs hH => ?_)
  have hH : cH s D A (oB z 5 [.int 0, .int 0, .int 0, .int 0, .int 0, .int 0, .int 0, .int 0, .int 0, .int 0, .int 0, .int 0] :: []) H locs := hH
  refine lv_aload_n hx hb dX5_init_59 rfl (lv_at hl 0 rfl) ?_
  refine lv_iconst (v := (0)) hx hb dX5_init_60 (by decide) ?_
  refine cput (ci := 5) (f := 11) C hin hH (by decide) (by decide) rfl rfl rfl (Nat.le_of_ble_eq_true rfl) (fk_in fldX5_ok fl_X5_46 (by decide)) rfl dX5_init_61 (fun H locs hH => ?_)
  have hH : cH s D A (oB z 5 [.int 0, .int 0, .int 0, .int 0, .int 0, .int 0, .int 0, .int 0, .int 0, .int 0, .int 0, .int 0] :: []) H locs := hH
  exact cret C hr hlocks hH (rfl) (Nat.le_of_ble_eq_true rfl) (Nat.le_of_ble_eq_true rfl) dX5_init_64

set_option maxRecDepth 200000 in
theorem oi_X0 : ∀ x ∈ [Jvm.Cond.methodLink RX0 3 objectInit], x ∈ xBig := xBig_of (by decide +kernel)
set_option maxHeartbeats 4000000 in
set_option maxRecDepth 100000 in
theorem mX0_init : iMet yX0_init cX0_init 1 0 3 1 20 [] (fun ca z w => ∃ b, w = [oB z 0 [.int 0, .int 0, .int 0, .int 0, .ref b], rI b ca 20 (fun _ => 0)]) := by
  refine iMet_of (lv := fun z => [(0, .ref z)]) (by decide +kernel) (fun _ => rfl) (Nat.le_of_ble_eq_true rfl) (fun _ => rfl) ?_
  intro p l e s m args below meth c D ca z A ls C hr hlocks hin hH hl
  have C : cCx p _ s m args meth c cX0_init RX0 1 D ca A := C
  obtain ⟨⟨hx, hb, hml, hown, hts⟩, hK, hA, hF⟩ := id C
  have hl : lv_has ls 1 [(0, .ref z)] := hl
  have hH : cH s D A (oB z 0 [.int 0, .int 0, .int 0, .int 0, .null] :: []) s.heap [] := hH
  refine lv_aload_n hx hb dX0_init_0 rfl (lv_at hl 0 rfl) ?_
  refine cobj C (oi_X0 _ List.mem_cons_self) hl.1 (Nat.le_of_ble_eq_true rfl) (Nat.le_of_ble_eq_true rfl) (Nat.le_of_ble_eq_true rfl) dX0_init_1 ?_
  refine lv_aload_n hx hb dX0_init_4 rfl (lv_at hl 0 rfl) ?_
  refine lv_iconst (v := (0)) hx hb dX0_init_5 (by decide) ?_
  refine cput (ci := 0) (f := 0) C hin hH (by decide) (by decide) rfl rfl rfl (Nat.le_of_ble_eq_true rfl) (fk_in fldX0_ok fl_X0_9 (by decide)) rfl dX0_init_6 (fun H locs hH => ?_)
  have hH : cH s D A (oB z 0 [.int 0, .int 0, .int 0, .int 0, .null] :: []) H locs := hH
  refine lv_aload_n hx hb dX0_init_9 rfl (lv_at hl 0 rfl) ?_
  refine lv_iconst (v := (0)) hx hb dX0_init_10 (by decide) ?_
  refine cput (ci := 0) (f := 1) C hin hH (by decide) (by decide) rfl rfl rfl (Nat.le_of_ble_eq_true rfl) (fk_in fldX0_ok fl_X0_15 (by decide)) rfl dX0_init_11 (fun H locs hH => ?_)
  have hH : cH s D A (oB z 0 [.int 0, .int 0, .int 0, .int 0, .null] :: []) H locs := hH
  refine lv_aload_n hx hb dX0_init_14 rfl (lv_at hl 0 rfl) ?_
  refine lv_iconst (v := (0)) hx hb dX0_init_15 (by decide) ?_
  refine cput (ci := 0) (f := 2) C hin hH (by decide) (by decide) rfl rfl rfl (Nat.le_of_ble_eq_true rfl) (fk_in fldX0_ok fl_X0_18 (by decide)) rfl dX0_init_16 (fun H locs hH => ?_)
  have hH : cH s D A (oB z 0 [.int 0, .int 0, .int 0, .int 0, .null] :: []) H locs := hH
  refine lv_aload_n hx hb dX0_init_19 rfl (lv_at hl 0 rfl) ?_
  refine lv_iconst (v := (0)) hx hb dX0_init_20 (by decide) ?_
  refine cput (ci := 0) (f := 3) C hin hH (by decide) (by decide) rfl rfl rfl (Nat.le_of_ble_eq_true rfl) (fk_in fldX0_ok fl_X0_21 (by decide)) rfl dX0_init_21 (fun H locs hH => ?_)
  have hH : cH s D A (oB z 0 [.int 0, .int 0, .int 0, .int 0, .null] :: []) H locs := hH
  refine lv_aload_n hx hb dX0_init_24 rfl (lv_at hl 0 rfl) ?_
  refine lv_bipush (v := (20)) hx hb dX0_init_25 (by decide) ?_
  refine cnewI (N := 20) C hH arI_in (by decide) (by decide) (by decide) (Nat.le_of_ble_eq_true rfl) (Nat.le_of_ble_eq_true rfl) dX0_init_27 (fun q27 H hH => ?_)
  have hH : cH s D A (oB z 0 [.int 0, .int 0, .int 0, .int 0, .null] :: rI q27 ca 20 (fun _ => 0) :: []) H _ := hH
  refine cput (ci := 0) (f := 4) C hin hH (by decide) (by decide) rfl rfl rfl (Nat.le_of_ble_eq_true rfl) (fk_in fldX0_ok fl_X0_24 (by decide)) rfl dX0_init_29 (fun H locs hH => ?_)
  have hH : cH s D A (oB z 0 [.int 0, .int 0, .int 0, .int 0, .ref q27] :: rI q27 ca 20 (fun _ => 0) :: []) H locs := hH
  exact cret C hr hlocks hH (⟨_, rfl⟩) (Nat.le_of_ble_eq_true rfl) (Nat.le_of_ble_eq_true rfl) dX0_init_32

set_option maxRecDepth 200000 in
theorem oi_X3 : ∀ x ∈ [Jvm.Cond.methodLink RX3 3 objectInit], x ∈ xBig := xBig_of (by decide +kernel)
set_option maxHeartbeats 4000000 in
set_option maxRecDepth 100000 in
theorem mX3_init : iMet yX3_init cX3_init 1 3 3 1 160 [] (fun ca z w => ∃ b, w = [oB z 3 [.int (-1), .int 0, .ref b], rJ b ca 160 (fun _ => 0)]) := by
  refine iMet_of (lv := fun z => [(0, .ref z)]) (by decide +kernel) (fun _ => rfl) (Nat.le_of_ble_eq_true rfl) (fun _ => rfl) ?_
  intro p l e s m args below meth c D ca z A ls C hr hlocks hin hH hl
  have C : cCx p _ s m args meth c cX3_init RX3 1 D ca A := C
  obtain ⟨⟨hx, hb, hml, hown, hts⟩, hK, hA, hF⟩ := id C
  have hl : lv_has ls 1 [(0, .ref z)] := hl
  have hH : cH s D A (oB z 3 [.int 0, .int 0, .null] :: []) s.heap [] := hH
  refine lv_aload_n hx hb dX3_init_0 rfl (lv_at hl 0 rfl) ?_
  refine cobj C (oi_X3 _ List.mem_cons_self) hl.1 (Nat.le_of_ble_eq_true rfl) (Nat.le_of_ble_eq_true rfl) (Nat.le_of_ble_eq_true rfl) dX3_init_1 ?_
  refine lv_aload_n hx hb dX3_init_4 rfl (lv_at hl 0 rfl) ?_
  refine lv_iconst (v := (-1)) hx hb dX3_init_5 (by decide) ?_
  refine cput (ci := 3) (f := 0) C hin hH (by decide) (by decide) rfl rfl rfl (Nat.le_of_ble_eq_true rfl) (fk_in fldX3_ok fl_X3_9 (by decide)) rfl dX3_init_6 (fun H locs hH => ?_)
  have hH : cH s D A (oB z 3 [.int (-1), .int 0, .null] :: []) H locs := hH
  refine lv_aload_n hx hb dX3_init_9 rfl (lv_at hl 0 rfl) ?_
  refine lv_iconst (v := (0)) hx hb dX3_init_10 (by decide) ?_
  refine cput (ci := 3) (f := 1) C hin hH (by decide) (by decide) rfl rfl rfl (Nat.le_of_ble_eq_true rfl) (fk_in fldX3_ok fl_X3_15 (by decide)) rfl dX3_init_11 (fun H locs hH => ?_)
  have hH : cH s D A (oB z 3 [.int (-1), .int 0, .null] :: []) H locs := hH
  refine lv_aload_n hx hb dX3_init_14 rfl (lv_at hl 0 rfl) ?_
  refine lv_sipush (v := (160)) hx hb dX3_init_15 (by decide) ?_
  refine cnewJ (N := 160) C hH arJ_in (by decide) (by decide) (by decide) (Nat.le_of_ble_eq_true rfl) (Nat.le_of_ble_eq_true rfl) dX3_init_18 (fun q18 H hH => ?_)
  have hH : cH s D A (oB z 3 [.int (-1), .int 0, .null] :: rJ q18 ca 160 (fun _ => 0) :: []) H _ := hH
  refine cput (ci := 3) (f := 2) C hin hH (by decide) (by decide) rfl rfl rfl (Nat.le_of_ble_eq_true rfl) (fk_in fldX3_ok fl_X3_18 (by decide)) rfl dX3_init_20 (fun H locs hH => ?_)
  have hH : cH s D A (oB z 3 [.int (-1), .int 0, .ref q18] :: rJ q18 ca 160 (fun _ => 0) :: []) H locs := hH
  exact cret C hr hlocks hH (⟨_, rfl⟩) (Nat.le_of_ble_eq_true rfl) (Nat.le_of_ble_eq_true rfl) dX3_init_23

/-- a town as it is made -/
def tO (a : Nat → Nat) : Nat × va_E := oB (a 0) 4 [.long 0, .int 0, .int 0, .int 0, .int 0, .int 1, .ref (a 1), .ref (a 2), .ref (a 3), .ref (a 4)]
def tR (a : Nat → Nat) : va_W := [oB (a 3) 1 [.int 0, .int 0, .int 0], oB (a 4) 5 [.int 0, .int 0, .int 0, .int 0, .int 0, .int 0, .int 0, .int 0, .int 0, .int 0, .int 0, .int 0], oB (a 10) 1 [.int 0, .int 0, .int 0], oB (a 11) 1 [.int 0, .int 0, .int 0], oB (a 12) 1 [.int 0, .int 0, .int 0], oB (a 13) 1 [.int 0, .int 0, .int 0], oB (a 14) 1 [.int 0, .int 0, .int 0], oB (a 15) 1 [.int 0, .int 0, .int 0], oB (a 16) 1 [.int 0, .int 0, .int 0], oB (a 17) 1 [.int 0, .int 0, .int 0], oB (a 20) 5 [.int 0, .int 0, .int 0, .int 0, .int 0, .int 0, .int 0, .int 0, .int 0, .int 0, .int 0, .int 0], oB (a 21) 5 [.int 0, .int 0, .int 0, .int 0, .int 0, .int 0, .int 0, .int 0, .int 0, .int 0, .int 0, .int 0], oB (a 22) 5 [.int 0, .int 0, .int 0, .int 0, .int 0, .int 0, .int 0, .int 0, .int 0, .int 0, .int 0, .int 0], oB (a 23) 5 [.int 0, .int 0, .int 0, .int 0, .int 0, .int 0, .int 0, .int 0, .int 0, .int 0, .int 0, .int 0], oB (a 24) 5 [.int 0, .int 0, .int 0, .int 0, .int 0, .int 0, .int 0, .int 0, .int 0, .int 0, .int 0, .int 0], oB (a 25) 5 [.int 0, .int 0, .int 0, .int 0, .int 0, .int 0, .int 0, .int 0, .int 0, .int 0, .int 0, .int 0]]
def PT (ca : Nat → ClassId) (z : Nat) (w : va_W) : Prop := ∃ (a : Nat → Nat) (f g : Nat → Option Nat), a 0 = z ∧ (∀ i, i < 8 → f i = some (a (10 + i))) ∧ (∀ i, i < 6 → g i = some (a (20 + i))) ∧ w = tO a :: rQ (a 1) ca 3 8 f :: rQ (a 2) ca 4 6 g :: tR a

set_option maxRecDepth 200000 in
theorem oi_X4 : ∀ x ∈ [Jvm.Cond.methodLink RX4 3 objectInit], x ∈ xBig := xBig_of (by decide +kernel)
set_option maxRecDepth 200000 in
theorem cl_X4_31 : ∀ x ∈ [Jvm.Cond.classLink RX4 31 RX1], x ∈ xBig := xBig_of (by decide +kernel)
set_option maxRecDepth 200000 in
theorem cl_X4_37 : ∀ x ∈ [Jvm.Cond.classLink RX4 37 RX5], x ∈ xBig := xBig_of (by decide +kernel)
set_option maxRecDepth 200000 in
theorem nw_X4_31 : ∀ x ∈ [Jvm.Cond.classLink RX4 31 RX1, Jvm.Cond.instantiable RX1 3, Jvm.Cond.initialized RX1], x ∈ xBig := xBig_of (by decide +kernel)
set_option maxRecDepth 200000 in
theorem ci_X4_43 : ∀ x ∈ [Jvm.Cond.instanceMethod yX1_init, .initialized yX1_init.cls, .code yX1_init cX1_init 1 none], x ∈ xBig := xBig_of (by decide +kernel)
set_option maxRecDepth 200000 in
theorem nw_X4_37 : ∀ x ∈ [Jvm.Cond.classLink RX4 37 RX5, Jvm.Cond.instantiable RX5 12, Jvm.Cond.initialized RX5], x ∈ xBig := xBig_of (by decide +kernel)
set_option maxRecDepth 200000 in
theorem ci_X4_48 : ∀ x ∈ [Jvm.Cond.instanceMethod yX5_init, .initialized yX5_init.cls, .code yX5_init cX5_init 1 none], x ∈ xBig := xBig_of (by decide +kernel)
set_option maxHeartbeats 4000000 in
set_option maxRecDepth 100000 in
theorem mX4_init : iMet yX4_init cX4_init 2 4 4 18 125 [] (PT) := by
  refine iMet_of (lv := fun z => [(0, .ref z)]) (by decide +kernel) (fun _ => rfl) (Nat.le_of_ble_eq_true rfl) (fun _ => rfl) ?_
  intro p l e s m args below meth c D ca z A ls C hr hlocks hin hH hl
  have C : cCx p _ s m args meth c cX4_init RX4 2 D ca A := C
  obtain ⟨⟨hx, hb, hml, hown, hts⟩, hK, hA, hF⟩ := id C
  have hl : lv_has ls 2 [(0, .ref z)] := hl
  have hH : cH s D A (oB z 4 [.long 0, .int 0, .int 0, .int 0, .int 0, .int 0, .null, .null, .null, .null] :: []) s.heap [] := hH
  refine lv_aload_n hx hb dX4_init_0 rfl (lv_at hl 0 rfl) ?_
  refine cobj C (oi_X4 _ List.mem_cons_self) hl.1 (Nat.le_of_ble_eq_true rfl) (Nat.le_of_ble_eq_true rfl) (Nat.le_of_ble_eq_true rfl) dX4_init_1 ?_
  refine lv_aload_n hx hb dX4_init_4 rfl (lv_at hl 0 rfl) ?_
  refine lv_lconst (v := (0)) hx hb dX4_init_5 (by decide) ?_
  refine cput (ci := 4) (f := 0) C hin hH (by decide) (by decide) rfl rfl rfl (Nat.le_of_ble_eq_true rfl) (fk_in fldX4_ok fl_X4_9 (by decide)) rfl dX4_init_6 (fun H locs hH => ?_)
  have hH : cH s D A (oB z 4 [.long 0, .int 0, .int 0, .int 0, .int 0, .int 0, .null, .null, .null, .null] :: []) H locs := hH
  refine lv_aload_n hx hb dX4_init_9 rfl (lv_at hl 0 rfl) ?_
  refine lv_iconst (v := (0)) hx hb dX4_init_10 (by decide) ?_
  refine cput (ci := 4) (f := 1) C hin hH (by decide) (by decide) rfl rfl rfl (Nat.le_of_ble_eq_true rfl) (fk_in fldX4_ok fl_X4_15 (by decide)) rfl dX4_init_11 (fun H locs hH => ?_)
  have hH : cH s D A (oB z 4 [.long 0, .int 0, .int 0, .int 0, .int 0, .int 0, .null, .null, .null, .null] :: []) H locs := hH
  refine lv_aload_n hx hb dX4_init_14 rfl (lv_at hl 0 rfl) ?_
  refine lv_iconst (v := (0)) hx hb dX4_init_15 (by decide) ?_
  refine cput (ci := 4) (f := 2) C hin hH (by decide) (by decide) rfl rfl rfl (Nat.le_of_ble_eq_true rfl) (fk_in fldX4_ok fl_X4_19 (by decide)) rfl dX4_init_16 (fun H locs hH => ?_)
  have hH : cH s D A (oB z 4 [.long 0, .int 0, .int 0, .int 0, .int 0, .int 0, .null, .null, .null, .null] :: []) H locs := hH
  refine lv_aload_n hx hb dX4_init_19 rfl (lv_at hl 0 rfl) ?_
  refine lv_iconst (v := (0)) hx hb dX4_init_20 (by decide) ?_
  refine cput (ci := 4) (f := 3) C hin hH (by decide) (by decide) rfl rfl rfl (Nat.le_of_ble_eq_true rfl) (fk_in fldX4_ok fl_X4_22 (by decide)) rfl dX4_init_21 (fun H locs hH => ?_)
  have hH : cH s D A (oB z 4 [.long 0, .int 0, .int 0, .int 0, .int 0, .int 0, .null, .null, .null, .null] :: []) H locs := hH
  refine lv_aload_n hx hb dX4_init_24 rfl (lv_at hl 0 rfl) ?_
  refine lv_iconst (v := (0)) hx hb dX4_init_25 (by decide) ?_
  refine cput (ci := 4) (f := 4) C hin hH (by decide) (by decide) rfl rfl rfl (Nat.le_of_ble_eq_true rfl) (fk_in fldX4_ok fl_X4_25 (by decide)) rfl dX4_init_26 (fun H locs hH => ?_)
  have hH : cH s D A (oB z 4 [.long 0, .int 0, .int 0, .int 0, .int 0, .int 0, .null, .null, .null, .null] :: []) H locs := hH
  refine lv_aload_n hx hb dX4_init_29 rfl (lv_at hl 0 rfl) ?_
  refine lv_iconst (v := (1)) hx hb dX4_init_30 (by decide) ?_
  refine cput (ci := 4) (f := 5) C hin hH (by decide) (by decide) rfl rfl rfl (Nat.le_of_ble_eq_true rfl) (fk_in fldX4_ok fl_X4_28 (by decide)) rfl dX4_init_31 (fun H locs hH => ?_)
  have hH : cH s D A (oB z 4 [.long 0, .int 0, .int 0, .int 0, .int 0, .int (1), .null, .null, .null, .null] :: []) H locs := hH
  refine lv_aload_n hx hb dX4_init_34 rfl (lv_at hl 0 rfl) ?_
  refine lv_bipush (v := (8)) hx hb dX4_init_35 (by decide) ?_
  refine cnewQ (N := 8) (k := 3) (Cn := RX1) C hH rfl (cl_X4_31 _ List.mem_cons_self) hF.2.2.1 (by decide) (by decide) (by decide) (Nat.le_of_ble_eq_true rfl) (Nat.le_of_ble_eq_true rfl) dX4_init_37 (fun q37 H hH => ?_)
  have hH : cH s D A (oB z 4 [.long 0, .int 0, .int 0, .int 0, .int 0, .int (1), .null, .null, .null, .null] :: rQ q37 ca 3 8 (fun _ => none) :: []) H _ := hH
  refine cput (ci := 4) (f := 6) C hin hH (by decide) (by decide) rfl rfl rfl (Nat.le_of_ble_eq_true rfl) (fk_in fldX4_ok fl_X4_33 (by decide)) rfl dX4_init_40 (fun H locs hH => ?_)
  have hH : cH s D A (oB z 4 [.long 0, .int 0, .int 0, .int 0, .int 0, .int (1), .ref q37, .null, .null, .null] :: rQ q37 ca 3 8 (fun _ => none) :: []) H locs := hH
  refine lv_aload_n hx hb dX4_init_43 rfl (lv_at hl 0 rfl) ?_
  refine lv_bipush (v := (6)) hx hb dX4_init_44 (by decide) ?_
  refine cnewQ (N := 6) (k := 4) (Cn := RX5) C hH rfl (cl_X4_37 _ List.mem_cons_self) hF.2.2.2 (by decide) (by decide) (by decide) (Nat.le_of_ble_eq_true rfl) (Nat.le_of_ble_eq_true rfl) dX4_init_46 (fun q46 H hH => ?_)
  have hH : cH s D A (oB z 4 [.long 0, .int 0, .int 0, .int 0, .int 0, .int (1), .ref q37, .null, .null, .null] :: rQ q37 ca 3 8 (fun _ => none) :: rQ q46 ca 4 6 (fun _ => none) :: []) H _ := hH
  refine cput (ci := 4) (f := 7) C hin hH (by decide) (by decide) rfl rfl rfl (Nat.le_of_ble_eq_true rfl) (fk_in fldX4_ok fl_X4_39 (by decide)) rfl dX4_init_49 (fun H locs hH => ?_)
  have hH : cH s D A (oB z 4 [.long 0, .int 0, .int 0, .int 0, .int 0, .int (1), .ref q37, .ref q46, .null, .null] :: rQ q37 ca 3 8 (fun _ => none) :: rQ q46 ca 4 6 (fun _ => none) :: []) H locs := hH
  refine lv_aload_n hx hb dX4_init_52 rfl (lv_at hl 0 rfl) ?_
  refine cnew (ci := 1) C hH (by decide) (nw_X4_31 _ (List.mem_of_getElem? (i := 0) rfl)) (nw_X4_31 _ (List.mem_of_getElem? (i := 1) rfl)) (nw_X4_31 _ (List.mem_of_getElem? (i := 2) rfl)) (Nat.le_of_ble_eq_true rfl) (Nat.le_of_ble_eq_true rfl) dX4_init_53 (fun p1 H hH => ?_)
  have hH : cH s D A ((oB z 4 [.long 0, .int 0, .int 0, .int 0, .int 0, .int (1), .ref q37, .ref q46, .null, .null] :: rQ q37 ca 3 8 (fun _ => none) :: rQ q46 ca 4 6 (fun _ => none) :: []) ++ [oB p1 1 (xdf 1)]) H _ := hH
  refine lv_dup hx hb dX4_init_56 rfl ?_
  refine cinitN (host := RX6) (n := 0) (As := []) mX1_init C hH hF.1.2.1 ci_X4_43 rfl ⟨by decide, by decide, by decide +kernel⟩ rfl ⟨Nat.le_of_ble_eq_true rfl, Nat.le_of_ble_eq_true rfl⟩ ⟨Nat.le_of_ble_eq_true rfl, Nat.le_of_ble_eq_true rfl⟩ hl.1 (Nat.le_of_ble_eq_true rfl) dX4_init_57 (fun H locs wp1 hpp1 hH => ?_)
  have hpp : wp1 = [oB p1 1 [.int 0, .int 0, .int 0]] := hpp1
  subst hpp
  have hH : cH s D A (oB z 4 [.long 0, .int 0, .int 0, .int 0, .int 0, .int (1), .ref q37, .ref q46, .null, .null] :: rQ q37 ca 3 8 (fun _ => none) :: rQ q46 ca 4 6 (fun _ => none) :: oB p1 1 [.int 0, .int 0, .int 0] :: []) H locs := hH
  refine cput (ci := 4) (f := 8) C hin hH (by decide) (by decide) rfl rfl rfl (Nat.le_of_ble_eq_true rfl) (fk_in fldX4_ok fl_X4_44 (by decide)) rfl dX4_init_60 (fun H locs hH => ?_)
  have hH : cH s D A (oB z 4 [.long 0, .int 0, .int 0, .int 0, .int 0, .int (1), .ref q37, .ref q46, .ref p1, .null] :: rQ q37 ca 3 8 (fun _ => none) :: rQ q46 ca 4 6 (fun _ => none) :: oB p1 1 [.int 0, .int 0, .int 0] :: []) H locs := hH
  refine lv_aload_n hx hb dX4_init_63 rfl (lv_at hl 0 rfl) ?_
  refine cnew (ci := 5) C hH (by decide) (nw_X4_37 _ (List.mem_of_getElem? (i := 0) rfl)) (nw_X4_37 _ (List.mem_of_getElem? (i := 1) rfl)) (nw_X4_37 _ (List.mem_of_getElem? (i := 2) rfl)) (Nat.le_of_ble_eq_true rfl) (Nat.le_of_ble_eq_true rfl) dX4_init_64 (fun p2 H hH => ?_)
  have hH : cH s D A ((oB z 4 [.long 0, .int 0, .int 0, .int 0, .int 0, .int (1), .ref q37, .ref q46, .ref p1, .null] :: rQ q37 ca 3 8 (fun _ => none) :: rQ q46 ca 4 6 (fun _ => none) :: oB p1 1 [.int 0, .int 0, .int 0] :: []) ++ [oB p2 5 (xdf 5)]) H _ := hH
  refine lv_dup hx hb dX4_init_67 rfl ?_
  refine cinitN (host := RX6) (n := 0) (As := []) mX5_init C hH hF.1.2.2 ci_X4_48 rfl ⟨by decide, by decide, by decide +kernel⟩ rfl ⟨Nat.le_of_ble_eq_true rfl, Nat.le_of_ble_eq_true rfl⟩ ⟨Nat.le_of_ble_eq_true rfl, Nat.le_of_ble_eq_true rfl⟩ hl.1 (Nat.le_of_ble_eq_true rfl) dX4_init_68 (fun H locs wp2 hpp2 hH => ?_)
  have hpp : wp2 = [oB p2 5 [.int 0, .int 0, .int 0, .int 0, .int 0, .int 0, .int 0, .int 0, .int 0, .int 0, .int 0, .int 0]] := hpp2
  subst hpp
  have hH : cH s D A (oB z 4 [.long 0, .int 0, .int 0, .int 0, .int 0, .int (1), .ref q37, .ref q46, .ref p1, .null] :: rQ q37 ca 3 8 (fun _ => none) :: rQ q46 ca 4 6 (fun _ => none) :: oB p1 1 [.int 0, .int 0, .int 0] :: oB p2 5 [.int 0, .int 0, .int 0, .int 0, .int 0, .int 0, .int 0, .int 0, .int 0, .int 0, .int 0, .int 0] :: []) H locs := hH
  refine cput (ci := 4) (f := 9) C hin hH (by decide) (by decide) rfl rfl rfl (Nat.le_of_ble_eq_true rfl) (fk_in fldX4_ok fl_X4_49 (by decide)) rfl dX4_init_71 (fun H locs hH => ?_)
  have hH : cH s D A (oB z 4 [.long 0, .int 0, .int 0, .int 0, .int 0, .int (1), .ref q37, .ref q46, .ref p1, .ref p2] :: rQ q37 ca 3 8 (fun _ => none) :: rQ q46 ca 4 6 (fun _ => none) :: oB p1 1 [.int 0, .int 0, .int 0] :: oB p2 5 [.int 0, .int 0, .int 0, .int 0, .int 0, .int 0, .int 0, .int 0, .int 0, .int 0, .int 0, .int 0] :: []) H locs := hH
  refine lv_iconst (v := nI 0) hx hb dX4_init_74 (by decide) ?_
  refine lv_istore_n (lv' := [(1, .int (nI 0)), (0, .ref z)]) hx hb dX4_init_75 rfl hl (by decide) rfl (fun ls hl => ?_)
  refine lv_iload_n hx hb dX4_init_76 rfl (lv_at hl 0 rfl) ?_
  refine lv_aload_n hx hb dX4_init_77 rfl (lv_at hl 1 rfl) ?_
  refine cget (ci := 4) (f := 6) (v := .ref q37) C hH (by decide) (by decide) rfl (fk_in fldX4_ok fl_X4_33 (by decide)) dX4_init_78 ?_
  refine clen (q0 := 1) (t0 := 3) (v := (8)) C hH rfl rfl rfl dX4_init_81 ?_
  refine lv_icmp_ge (tgt := 104) hx hb dX4_init_82 (by decide) (fun h => absurd h (by decide)) (fun _ => ?_)
  refine lv_aload_n hx hb dX4_init_85 rfl (lv_at hl 1 rfl) ?_
  refine cget (ci := 4) (f := 6) (v := .ref q37) C hH (by decide) (by decide) rfl (fk_in fldX4_ok fl_X4_33 (by decide)) dX4_init_86 ?_
  refine lv_iload_n hx hb dX4_init_89 rfl (lv_at hl 0 rfl) ?_
  refine cnew (ci := 1) C hH (by decide) (nw_X4_31 _ (List.mem_of_getElem? (i := 0) rfl)) (nw_X4_31 _ (List.mem_of_getElem? (i := 1) rfl)) (nw_X4_31 _ (List.mem_of_getElem? (i := 2) rfl)) (Nat.le_of_ble_eq_true rfl) (Nat.le_of_ble_eq_true rfl) dX4_init_90 (fun p3 H hH => ?_)
  have hH : cH s D A ((oB z 4 [.long 0, .int 0, .int 0, .int 0, .int 0, .int (1), .ref q37, .ref q46, .ref p1, .ref p2] :: rQ q37 ca 3 8 (fun _ => none) :: rQ q46 ca 4 6 (fun _ => none) :: oB p1 1 [.int 0, .int 0, .int 0] :: oB p2 5 [.int 0, .int 0, .int 0, .int 0, .int 0, .int 0, .int 0, .int 0, .int 0, .int 0, .int 0, .int 0] :: []) ++ [oB p3 1 (xdf 1)]) H _ := hH
  refine lv_dup hx hb dX4_init_93 rfl ?_
  refine cinitN (host := RX6) (n := 0) (As := []) mX1_init C hH hF.1.2.1 ci_X4_43 rfl ⟨by decide, by decide, by decide +kernel⟩ rfl ⟨Nat.le_of_ble_eq_true rfl, Nat.le_of_ble_eq_true rfl⟩ ⟨Nat.le_of_ble_eq_true rfl, Nat.le_of_ble_eq_true rfl⟩ hl.1 (Nat.le_of_ble_eq_true rfl) dX4_init_94 (fun H locs wp3 hpp3 hH => ?_)
  have hpp : wp3 = [oB p3 1 [.int 0, .int 0, .int 0]] := hpp3
  subst hpp
  have hH : cH s D A (oB z 4 [.long 0, .int 0, .int 0, .int 0, .int 0, .int (1), .ref q37, .ref q46, .ref p1, .ref p2] :: rQ q37 ca 3 8 (fun _ => none) :: rQ q46 ca 4 6 (fun _ => none) :: oB p1 1 [.int 0, .int 0, .int 0] :: oB p2 5 [.int 0, .int 0, .int 0, .int 0, .int 0, .int 0, .int 0, .int 0, .int 0, .int 0, .int 0, .int 0] :: oB p3 1 [.int 0, .int 0, .int 0] :: []) H locs := hH
  refine cstq (q0 := 1) (t0 := 3) (qk := 5) (ci := 1) (j := 0) C hH rfl rfl rfl (by decide) (by decide) (by decide) dX4_init_97 (fun H locs hH => ?_)
  have hH : cH s D A (oB z 4 [.long 0, .int 0, .int 0, .int 0, .int 0, .int (1), .ref q37, .ref q46, .ref p1, .ref p2] :: rQ q37 ca 3 8 (va_up (fun _ => none) 0 (some p3)) :: rQ q46 ca 4 6 (fun _ => none) :: oB p1 1 [.int 0, .int 0, .int 0] :: oB p2 5 [.int 0, .int 0, .int 0, .int 0, .int 0, .int 0, .int 0, .int 0, .int 0, .int 0, .int 0, .int 0] :: oB p3 1 [.int 0, .int 0, .int 0] :: []) H locs := hH
  refine lv_iinc (v := nI 1) (lv' := [(1, .int (nI 1)), (0, .ref z)]) hx hb dX4_init_98 hl (k := 0) rfl (by decide) (by decide) rfl (fun ls hl => ?_)
  refine lv_goto (tgt := 76) hx hb dX4_init_101 (by decide) ?_
  refine lv_iload_n hx hb dX4_init_76 rfl (lv_at hl 0 rfl) ?_
  refine lv_aload_n hx hb dX4_init_77 rfl (lv_at hl 1 rfl) ?_
  refine cget (ci := 4) (f := 6) (v := .ref q37) C hH (by decide) (by decide) rfl (fk_in fldX4_ok fl_X4_33 (by decide)) dX4_init_78 ?_
  refine clen (q0 := 1) (t0 := 3) (v := (8)) C hH rfl rfl rfl dX4_init_81 ?_
  refine lv_icmp_ge (tgt := 104) hx hb dX4_init_82 (by decide) (fun h => absurd h (by decide)) (fun _ => ?_)
  refine lv_aload_n hx hb dX4_init_85 rfl (lv_at hl 1 rfl) ?_
  refine cget (ci := 4) (f := 6) (v := .ref q37) C hH (by decide) (by decide) rfl (fk_in fldX4_ok fl_X4_33 (by decide)) dX4_init_86 ?_
  refine lv_iload_n hx hb dX4_init_89 rfl (lv_at hl 0 rfl) ?_
  refine cnew (ci := 1) C hH (by decide) (nw_X4_31 _ (List.mem_of_getElem? (i := 0) rfl)) (nw_X4_31 _ (List.mem_of_getElem? (i := 1) rfl)) (nw_X4_31 _ (List.mem_of_getElem? (i := 2) rfl)) (Nat.le_of_ble_eq_true rfl) (Nat.le_of_ble_eq_true rfl) dX4_init_90 (fun p4 H hH => ?_)
  have hH : cH s D A ((oB z 4 [.long 0, .int 0, .int 0, .int 0, .int 0, .int (1), .ref q37, .ref q46, .ref p1, .ref p2] :: rQ q37 ca 3 8 (va_up (fun _ => none) 0 (some p3)) :: rQ q46 ca 4 6 (fun _ => none) :: oB p1 1 [.int 0, .int 0, .int 0] :: oB p2 5 [.int 0, .int 0, .int 0, .int 0, .int 0, .int 0, .int 0, .int 0, .int 0, .int 0, .int 0, .int 0] :: oB p3 1 [.int 0, .int 0, .int 0] :: []) ++ [oB p4 1 (xdf 1)]) H _ := hH
  refine lv_dup hx hb dX4_init_93 rfl ?_
  refine cinitN (host := RX6) (n := 0) (As := []) mX1_init C hH hF.1.2.1 ci_X4_43 rfl ⟨by decide, by decide, by decide +kernel⟩ rfl ⟨Nat.le_of_ble_eq_true rfl, Nat.le_of_ble_eq_true rfl⟩ ⟨Nat.le_of_ble_eq_true rfl, Nat.le_of_ble_eq_true rfl⟩ hl.1 (Nat.le_of_ble_eq_true rfl) dX4_init_94 (fun H locs wp4 hpp4 hH => ?_)
  have hpp : wp4 = [oB p4 1 [.int 0, .int 0, .int 0]] := hpp4
  subst hpp
  have hH : cH s D A (oB z 4 [.long 0, .int 0, .int 0, .int 0, .int 0, .int (1), .ref q37, .ref q46, .ref p1, .ref p2] :: rQ q37 ca 3 8 (va_up (fun _ => none) 0 (some p3)) :: rQ q46 ca 4 6 (fun _ => none) :: oB p1 1 [.int 0, .int 0, .int 0] :: oB p2 5 [.int 0, .int 0, .int 0, .int 0, .int 0, .int 0, .int 0, .int 0, .int 0, .int 0, .int 0, .int 0] :: oB p3 1 [.int 0, .int 0, .int 0] :: oB p4 1 [.int 0, .int 0, .int 0] :: []) H locs := hH
  refine cstq (q0 := 1) (t0 := 3) (qk := 6) (ci := 1) (j := 1) C hH rfl rfl rfl (by decide) (by decide) (by decide) dX4_init_97 (fun H locs hH => ?_)
  have hH : cH s D A (oB z 4 [.long 0, .int 0, .int 0, .int 0, .int 0, .int (1), .ref q37, .ref q46, .ref p1, .ref p2] :: rQ q37 ca 3 8 (va_up (va_up (fun _ => none) 0 (some p3)) 1 (some p4)) :: rQ q46 ca 4 6 (fun _ => none) :: oB p1 1 [.int 0, .int 0, .int 0] :: oB p2 5 [.int 0, .int 0, .int 0, .int 0, .int 0, .int 0, .int 0, .int 0, .int 0, .int 0, .int 0, .int 0] :: oB p3 1 [.int 0, .int 0, .int 0] :: oB p4 1 [.int 0, .int 0, .int 0] :: []) H locs := hH
  refine lv_iinc (v := nI 2) (lv' := [(1, .int (nI 2)), (0, .ref z)]) hx hb dX4_init_98 hl (k := 0) rfl (by decide) (by decide) rfl (fun ls hl => ?_)
  refine lv_goto (tgt := 76) hx hb dX4_init_101 (by decide) ?_
  refine lv_iload_n hx hb dX4_init_76 rfl (lv_at hl 0 rfl) ?_
  refine lv_aload_n hx hb dX4_init_77 rfl (lv_at hl 1 rfl) ?_
  refine cget (ci := 4) (f := 6) (v := .ref q37) C hH (by decide) (by decide) rfl (fk_in fldX4_ok fl_X4_33 (by decide)) dX4_init_78 ?_
  refine clen (q0 := 1) (t0 := 3) (v := (8)) C hH rfl rfl rfl dX4_init_81 ?_
  refine lv_icmp_ge (tgt := 104) hx hb dX4_init_82 (by decide) (fun h => absurd h (by decide)) (fun _ => ?_)
  refine lv_aload_n hx hb dX4_init_85 rfl (lv_at hl 1 rfl) ?_
  refine cget (ci := 4) (f := 6) (v := .ref q37) C hH (by decide) (by decide) rfl (fk_in fldX4_ok fl_X4_33 (by decide)) dX4_init_86 ?_
  refine lv_iload_n hx hb dX4_init_89 rfl (lv_at hl 0 rfl) ?_
  refine cnew (ci := 1) C hH (by decide) (nw_X4_31 _ (List.mem_of_getElem? (i := 0) rfl)) (nw_X4_31 _ (List.mem_of_getElem? (i := 1) rfl)) (nw_X4_31 _ (List.mem_of_getElem? (i := 2) rfl)) (Nat.le_of_ble_eq_true rfl) (Nat.le_of_ble_eq_true rfl) dX4_init_90 (fun p5 H hH => ?_)
  have hH : cH s D A ((oB z 4 [.long 0, .int 0, .int 0, .int 0, .int 0, .int (1), .ref q37, .ref q46, .ref p1, .ref p2] :: rQ q37 ca 3 8 (va_up (va_up (fun _ => none) 0 (some p3)) 1 (some p4)) :: rQ q46 ca 4 6 (fun _ => none) :: oB p1 1 [.int 0, .int 0, .int 0] :: oB p2 5 [.int 0, .int 0, .int 0, .int 0, .int 0, .int 0, .int 0, .int 0, .int 0, .int 0, .int 0, .int 0] :: oB p3 1 [.int 0, .int 0, .int 0] :: oB p4 1 [.int 0, .int 0, .int 0] :: []) ++ [oB p5 1 (xdf 1)]) H _ := hH
  refine lv_dup hx hb dX4_init_93 rfl ?_
  refine cinitN (host := RX6) (n := 0) (As := []) mX1_init C hH hF.1.2.1 ci_X4_43 rfl ⟨by decide, by decide, by decide +kernel⟩ rfl ⟨Nat.le_of_ble_eq_true rfl, Nat.le_of_ble_eq_true rfl⟩ ⟨Nat.le_of_ble_eq_true rfl, Nat.le_of_ble_eq_true rfl⟩ hl.1 (Nat.le_of_ble_eq_true rfl) dX4_init_94 (fun H locs wp5 hpp5 hH => ?_)
  have hpp : wp5 = [oB p5 1 [.int 0, .int 0, .int 0]] := hpp5
  subst hpp
  have hH : cH s D A (oB z 4 [.long 0, .int 0, .int 0, .int 0, .int 0, .int (1), .ref q37, .ref q46, .ref p1, .ref p2] :: rQ q37 ca 3 8 (va_up (va_up (fun _ => none) 0 (some p3)) 1 (some p4)) :: rQ q46 ca 4 6 (fun _ => none) :: oB p1 1 [.int 0, .int 0, .int 0] :: oB p2 5 [.int 0, .int 0, .int 0, .int 0, .int 0, .int 0, .int 0, .int 0, .int 0, .int 0, .int 0, .int 0] :: oB p3 1 [.int 0, .int 0, .int 0] :: oB p4 1 [.int 0, .int 0, .int 0] :: oB p5 1 [.int 0, .int 0, .int 0] :: []) H locs := hH
  refine cstq (q0 := 1) (t0 := 3) (qk := 7) (ci := 1) (j := 2) C hH rfl rfl rfl (by decide) (by decide) (by decide) dX4_init_97 (fun H locs hH => ?_)
  have hH : cH s D A (oB z 4 [.long 0, .int 0, .int 0, .int 0, .int 0, .int (1), .ref q37, .ref q46, .ref p1, .ref p2] :: rQ q37 ca 3 8 (va_up (va_up (va_up (fun _ => none) 0 (some p3)) 1 (some p4)) 2 (some p5)) :: rQ q46 ca 4 6 (fun _ => none) :: oB p1 1 [.int 0, .int 0, .int 0] :: oB p2 5 [.int 0, .int 0, .int 0, .int 0, .int 0, .int 0, .int 0, .int 0, .int 0, .int 0, .int 0, .int 0] :: oB p3 1 [.int 0, .int 0, .int 0] :: oB p4 1 [.int 0, .int 0, .int 0] :: oB p5 1 [.int 0, .int 0, .int 0] :: []) H locs := hH
  refine lv_iinc (v := nI 3) (lv' := [(1, .int (nI 3)), (0, .ref z)]) hx hb dX4_init_98 hl (k := 0) rfl (by decide) (by decide) rfl (fun ls hl => ?_)
  refine lv_goto (tgt := 76) hx hb dX4_init_101 (by decide) ?_
  refine lv_iload_n hx hb dX4_init_76 rfl (lv_at hl 0 rfl) ?_
  refine lv_aload_n hx hb dX4_init_77 rfl (lv_at hl 1 rfl) ?_
  refine cget (ci := 4) (f := 6) (v := .ref q37) C hH (by decide) (by decide) rfl (fk_in fldX4_ok fl_X4_33 (by decide)) dX4_init_78 ?_
  refine clen (q0 := 1) (t0 := 3) (v := (8)) C hH rfl rfl rfl dX4_init_81 ?_
  refine lv_icmp_ge (tgt := 104) hx hb dX4_init_82 (by decide) (fun h => absurd h (by decide)) (fun _ => ?_)
  refine lv_aload_n hx hb dX4_init_85 rfl (lv_at hl 1 rfl) ?_
  refine cget (ci := 4) (f := 6) (v := .ref q37) C hH (by decide) (by decide) rfl (fk_in fldX4_ok fl_X4_33 (by decide)) dX4_init_86 ?_
  refine lv_iload_n hx hb dX4_init_89 rfl (lv_at hl 0 rfl) ?_
  refine cnew (ci := 1) C hH (by decide) (nw_X4_31 _ (List.mem_of_getElem? (i := 0) rfl)) (nw_X4_31 _ (List.mem_of_getElem? (i := 1) rfl)) (nw_X4_31 _ (List.mem_of_getElem? (i := 2) rfl)) (Nat.le_of_ble_eq_true rfl) (Nat.le_of_ble_eq_true rfl) dX4_init_90 (fun p6 H hH => ?_)
  have hH : cH s D A ((oB z 4 [.long 0, .int 0, .int 0, .int 0, .int 0, .int (1), .ref q37, .ref q46, .ref p1, .ref p2] :: rQ q37 ca 3 8 (va_up (va_up (va_up (fun _ => none) 0 (some p3)) 1 (some p4)) 2 (some p5)) :: rQ q46 ca 4 6 (fun _ => none) :: oB p1 1 [.int 0, .int 0, .int 0] :: oB p2 5 [.int 0, .int 0, .int 0, .int 0, .int 0, .int 0, .int 0, .int 0, .int 0, .int 0, .int 0, .int 0] :: oB p3 1 [.int 0, .int 0, .int 0] :: oB p4 1 [.int 0, .int 0, .int 0] :: oB p5 1 [.int 0, .int 0, .int 0] :: []) ++ [oB p6 1 (xdf 1)]) H _ := hH
  refine lv_dup hx hb dX4_init_93 rfl ?_
  refine cinitN (host := RX6) (n := 0) (As := []) mX1_init C hH hF.1.2.1 ci_X4_43 rfl ⟨by decide, by decide, by decide +kernel⟩ rfl ⟨Nat.le_of_ble_eq_true rfl, Nat.le_of_ble_eq_true rfl⟩ ⟨Nat.le_of_ble_eq_true rfl, Nat.le_of_ble_eq_true rfl⟩ hl.1 (Nat.le_of_ble_eq_true rfl) dX4_init_94 (fun H locs wp6 hpp6 hH => ?_)
  have hpp : wp6 = [oB p6 1 [.int 0, .int 0, .int 0]] := hpp6
  subst hpp
  have hH : cH s D A (oB z 4 [.long 0, .int 0, .int 0, .int 0, .int 0, .int (1), .ref q37, .ref q46, .ref p1, .ref p2] :: rQ q37 ca 3 8 (va_up (va_up (va_up (fun _ => none) 0 (some p3)) 1 (some p4)) 2 (some p5)) :: rQ q46 ca 4 6 (fun _ => none) :: oB p1 1 [.int 0, .int 0, .int 0] :: oB p2 5 [.int 0, .int 0, .int 0, .int 0, .int 0, .int 0, .int 0, .int 0, .int 0, .int 0, .int 0, .int 0] :: oB p3 1 [.int 0, .int 0, .int 0] :: oB p4 1 [.int 0, .int 0, .int 0] :: oB p5 1 [.int 0, .int 0, .int 0] :: oB p6 1 [.int 0, .int 0, .int 0] :: []) H locs := hH
  refine cstq (q0 := 1) (t0 := 3) (qk := 8) (ci := 1) (j := 3) C hH rfl rfl rfl (by decide) (by decide) (by decide) dX4_init_97 (fun H locs hH => ?_)
  have hH : cH s D A (oB z 4 [.long 0, .int 0, .int 0, .int 0, .int 0, .int (1), .ref q37, .ref q46, .ref p1, .ref p2] :: rQ q37 ca 3 8 (va_up (va_up (va_up (va_up (fun _ => none) 0 (some p3)) 1 (some p4)) 2 (some p5)) 3 (some p6)) :: rQ q46 ca 4 6 (fun _ => none) :: oB p1 1 [.int 0, .int 0, .int 0] :: oB p2 5 [.int 0, .int 0, .int 0, .int 0, .int 0, .int 0, .int 0, .int 0, .int 0, .int 0, .int 0, .int 0] :: oB p3 1 [.int 0, .int 0, .int 0] :: oB p4 1 [.int 0, .int 0, .int 0] :: oB p5 1 [.int 0, .int 0, .int 0] :: oB p6 1 [.int 0, .int 0, .int 0] :: []) H locs := hH
  refine lv_iinc (v := nI 4) (lv' := [(1, .int (nI 4)), (0, .ref z)]) hx hb dX4_init_98 hl (k := 0) rfl (by decide) (by decide) rfl (fun ls hl => ?_)
  refine lv_goto (tgt := 76) hx hb dX4_init_101 (by decide) ?_
  refine lv_iload_n hx hb dX4_init_76 rfl (lv_at hl 0 rfl) ?_
  refine lv_aload_n hx hb dX4_init_77 rfl (lv_at hl 1 rfl) ?_
  refine cget (ci := 4) (f := 6) (v := .ref q37) C hH (by decide) (by decide) rfl (fk_in fldX4_ok fl_X4_33 (by decide)) dX4_init_78 ?_
  refine clen (q0 := 1) (t0 := 3) (v := (8)) C hH rfl rfl rfl dX4_init_81 ?_
  refine lv_icmp_ge (tgt := 104) hx hb dX4_init_82 (by decide) (fun h => absurd h (by decide)) (fun _ => ?_)
  refine lv_aload_n hx hb dX4_init_85 rfl (lv_at hl 1 rfl) ?_
  refine cget (ci := 4) (f := 6) (v := .ref q37) C hH (by decide) (by decide) rfl (fk_in fldX4_ok fl_X4_33 (by decide)) dX4_init_86 ?_
  refine lv_iload_n hx hb dX4_init_89 rfl (lv_at hl 0 rfl) ?_
  refine cnew (ci := 1) C hH (by decide) (nw_X4_31 _ (List.mem_of_getElem? (i := 0) rfl)) (nw_X4_31 _ (List.mem_of_getElem? (i := 1) rfl)) (nw_X4_31 _ (List.mem_of_getElem? (i := 2) rfl)) (Nat.le_of_ble_eq_true rfl) (Nat.le_of_ble_eq_true rfl) dX4_init_90 (fun p7 H hH => ?_)
  have hH : cH s D A ((oB z 4 [.long 0, .int 0, .int 0, .int 0, .int 0, .int (1), .ref q37, .ref q46, .ref p1, .ref p2] :: rQ q37 ca 3 8 (va_up (va_up (va_up (va_up (fun _ => none) 0 (some p3)) 1 (some p4)) 2 (some p5)) 3 (some p6)) :: rQ q46 ca 4 6 (fun _ => none) :: oB p1 1 [.int 0, .int 0, .int 0] :: oB p2 5 [.int 0, .int 0, .int 0, .int 0, .int 0, .int 0, .int 0, .int 0, .int 0, .int 0, .int 0, .int 0] :: oB p3 1 [.int 0, .int 0, .int 0] :: oB p4 1 [.int 0, .int 0, .int 0] :: oB p5 1 [.int 0, .int 0, .int 0] :: oB p6 1 [.int 0, .int 0, .int 0] :: []) ++ [oB p7 1 (xdf 1)]) H _ := hH
  refine lv_dup hx hb dX4_init_93 rfl ?_
  refine cinitN (host := RX6) (n := 0) (As := []) mX1_init C hH hF.1.2.1 ci_X4_43 rfl ⟨by decide, by decide, by decide +kernel⟩ rfl ⟨Nat.le_of_ble_eq_true rfl, Nat.le_of_ble_eq_true rfl⟩ ⟨Nat.le_of_ble_eq_true rfl, Nat.le_of_ble_eq_true rfl⟩ hl.1 (Nat.le_of_ble_eq_true rfl) dX4_init_94 (fun H locs wp7 hpp7 hH => ?_)
  have hpp : wp7 = [oB p7 1 [.int 0, .int 0, .int 0]] := hpp7
  subst hpp
  have hH : cH s D A (oB z 4 [.long 0, .int 0, .int 0, .int 0, .int 0, .int (1), .ref q37, .ref q46, .ref p1, .ref p2] :: rQ q37 ca 3 8 (va_up (va_up (va_up (va_up (fun _ => none) 0 (some p3)) 1 (some p4)) 2 (some p5)) 3 (some p6)) :: rQ q46 ca 4 6 (fun _ => none) :: oB p1 1 [.int 0, .int 0, .int 0] :: oB p2 5 [.int 0, .int 0, .int 0, .int 0, .int 0, .int 0, .int 0, .int 0, .int 0, .int 0, .int 0, .int 0] :: oB p3 1 [.int 0, .int 0, .int 0] :: oB p4 1 [.int 0, .int 0, .int 0] :: oB p5 1 [.int 0, .int 0, .int 0] :: oB p6 1 [.int 0, .int 0, .int 0] :: oB p7 1 [.int 0, .int 0, .int 0] :: []) H locs := hH
  refine cstq (q0 := 1) (t0 := 3) (qk := 9) (ci := 1) (j := 4) C hH rfl rfl rfl (by decide) (by decide) (by decide) dX4_init_97 (fun H locs hH => ?_)
  have hH : cH s D A (oB z 4 [.long 0, .int 0, .int 0, .int 0, .int 0, .int (1), .ref q37, .ref q46, .ref p1, .ref p2] :: rQ q37 ca 3 8 (va_up (va_up (va_up (va_up (va_up (fun _ => none) 0 (some p3)) 1 (some p4)) 2 (some p5)) 3 (some p6)) 4 (some p7)) :: rQ q46 ca 4 6 (fun _ => none) :: oB p1 1 [.int 0, .int 0, .int 0] :: oB p2 5 [.int 0, .int 0, .int 0, .int 0, .int 0, .int 0, .int 0, .int 0, .int 0, .int 0, .int 0, .int 0] :: oB p3 1 [.int 0, .int 0, .int 0] :: oB p4 1 [.int 0, .int 0, .int 0] :: oB p5 1 [.int 0, .int 0, .int 0] :: oB p6 1 [.int 0, .int 0, .int 0] :: oB p7 1 [.int 0, .int 0, .int 0] :: []) H locs := hH
  refine lv_iinc (v := nI 5) (lv' := [(1, .int (nI 5)), (0, .ref z)]) hx hb dX4_init_98 hl (k := 0) rfl (by decide) (by decide) rfl (fun ls hl => ?_)
  refine lv_goto (tgt := 76) hx hb dX4_init_101 (by decide) ?_
  refine lv_iload_n hx hb dX4_init_76 rfl (lv_at hl 0 rfl) ?_
  refine lv_aload_n hx hb dX4_init_77 rfl (lv_at hl 1 rfl) ?_
  refine cget (ci := 4) (f := 6) (v := .ref q37) C hH (by decide) (by decide) rfl (fk_in fldX4_ok fl_X4_33 (by decide)) dX4_init_78 ?_
  refine clen (q0 := 1) (t0 := 3) (v := (8)) C hH rfl rfl rfl dX4_init_81 ?_
  refine lv_icmp_ge (tgt := 104) hx hb dX4_init_82 (by decide) (fun h => absurd h (by decide)) (fun _ => ?_)
  refine lv_aload_n hx hb dX4_init_85 rfl (lv_at hl 1 rfl) ?_
  refine cget (ci := 4) (f := 6) (v := .ref q37) C hH (by decide) (by decide) rfl (fk_in fldX4_ok fl_X4_33 (by decide)) dX4_init_86 ?_
  refine lv_iload_n hx hb dX4_init_89 rfl (lv_at hl 0 rfl) ?_
  refine cnew (ci := 1) C hH (by decide) (nw_X4_31 _ (List.mem_of_getElem? (i := 0) rfl)) (nw_X4_31 _ (List.mem_of_getElem? (i := 1) rfl)) (nw_X4_31 _ (List.mem_of_getElem? (i := 2) rfl)) (Nat.le_of_ble_eq_true rfl) (Nat.le_of_ble_eq_true rfl) dX4_init_90 (fun p8 H hH => ?_)
  have hH : cH s D A ((oB z 4 [.long 0, .int 0, .int 0, .int 0, .int 0, .int (1), .ref q37, .ref q46, .ref p1, .ref p2] :: rQ q37 ca 3 8 (va_up (va_up (va_up (va_up (va_up (fun _ => none) 0 (some p3)) 1 (some p4)) 2 (some p5)) 3 (some p6)) 4 (some p7)) :: rQ q46 ca 4 6 (fun _ => none) :: oB p1 1 [.int 0, .int 0, .int 0] :: oB p2 5 [.int 0, .int 0, .int 0, .int 0, .int 0, .int 0, .int 0, .int 0, .int 0, .int 0, .int 0, .int 0] :: oB p3 1 [.int 0, .int 0, .int 0] :: oB p4 1 [.int 0, .int 0, .int 0] :: oB p5 1 [.int 0, .int 0, .int 0] :: oB p6 1 [.int 0, .int 0, .int 0] :: oB p7 1 [.int 0, .int 0, .int 0] :: []) ++ [oB p8 1 (xdf 1)]) H _ := hH
  refine lv_dup hx hb dX4_init_93 rfl ?_
  refine cinitN (host := RX6) (n := 0) (As := []) mX1_init C hH hF.1.2.1 ci_X4_43 rfl ⟨by decide, by decide, by decide +kernel⟩ rfl ⟨Nat.le_of_ble_eq_true rfl, Nat.le_of_ble_eq_true rfl⟩ ⟨Nat.le_of_ble_eq_true rfl, Nat.le_of_ble_eq_true rfl⟩ hl.1 (Nat.le_of_ble_eq_true rfl) dX4_init_94 (fun H locs wp8 hpp8 hH => ?_)
  have hpp : wp8 = [oB p8 1 [.int 0, .int 0, .int 0]] := hpp8
  subst hpp
  have hH : cH s D A (oB z 4 [.long 0, .int 0, .int 0, .int 0, .int 0, .int (1), .ref q37, .ref q46, .ref p1, .ref p2] :: rQ q37 ca 3 8 (va_up (va_up (va_up (va_up (va_up (fun _ => none) 0 (some p3)) 1 (some p4)) 2 (some p5)) 3 (some p6)) 4 (some p7)) :: rQ q46 ca 4 6 (fun _ => none) :: oB p1 1 [.int 0, .int 0, .int 0] :: oB p2 5 [.int 0, .int 0, .int 0, .int 0, .int 0, .int 0, .int 0, .int 0, .int 0, .int 0, .int 0, .int 0] :: oB p3 1 [.int 0, .int 0, .int 0] :: oB p4 1 [.int 0, .int 0, .int 0] :: oB p5 1 [.int 0, .int 0, .int 0] :: oB p6 1 [.int 0, .int 0, .int 0] :: oB p7 1 [.int 0, .int 0, .int 0] :: oB p8 1 [.int 0, .int 0, .int 0] :: []) H locs := hH
  refine cstq (q0 := 1) (t0 := 3) (qk := 10) (ci := 1) (j := 5) C hH rfl rfl rfl (by decide) (by decide) (by decide) dX4_init_97 (fun H locs hH => ?_)
  have hH : cH s D A (oB z 4 [.long 0, .int 0, .int 0, .int 0, .int 0, .int (1), .ref q37, .ref q46, .ref p1, .ref p2] :: rQ q37 ca 3 8 (va_up (va_up (va_up (va_up (va_up (va_up (fun _ => none) 0 (some p3)) 1 (some p4)) 2 (some p5)) 3 (some p6)) 4 (some p7)) 5 (some p8)) :: rQ q46 ca 4 6 (fun _ => none) :: oB p1 1 [.int 0, .int 0, .int 0] :: oB p2 5 [.int 0, .int 0, .int 0, .int 0, .int 0, .int 0, .int 0, .int 0, .int 0, .int 0, .int 0, .int 0] :: oB p3 1 [.int 0, .int 0, .int 0] :: oB p4 1 [.int 0, .int 0, .int 0] :: oB p5 1 [.int 0, .int 0, .int 0] :: oB p6 1 [.int 0, .int 0, .int 0] :: oB p7 1 [.int 0, .int 0, .int 0] :: oB p8 1 [.int 0, .int 0, .int 0] :: []) H locs := hH
  refine lv_iinc (v := nI 6) (lv' := [(1, .int (nI 6)), (0, .ref z)]) hx hb dX4_init_98 hl (k := 0) rfl (by decide) (by decide) rfl (fun ls hl => ?_)
  refine lv_goto (tgt := 76) hx hb dX4_init_101 (by decide) ?_
  refine lv_iload_n hx hb dX4_init_76 rfl (lv_at hl 0 rfl) ?_
  refine lv_aload_n hx hb dX4_init_77 rfl (lv_at hl 1 rfl) ?_
  refine cget (ci := 4) (f := 6) (v := .ref q37) C hH (by decide) (by decide) rfl (fk_in fldX4_ok fl_X4_33 (by decide)) dX4_init_78 ?_
  refine clen (q0 := 1) (t0 := 3) (v := (8)) C hH rfl rfl rfl dX4_init_81 ?_
  refine lv_icmp_ge (tgt := 104) hx hb dX4_init_82 (by decide) (fun h => absurd h (by decide)) (fun _ => ?_)
  refine lv_aload_n hx hb dX4_init_85 rfl (lv_at hl 1 rfl) ?_
  refine cget (ci := 4) (f := 6) (v := .ref q37) C hH (by decide) (by decide) rfl (fk_in fldX4_ok fl_X4_33 (by decide)) dX4_init_86 ?_
  refine lv_iload_n hx hb dX4_init_89 rfl (lv_at hl 0 rfl) ?_
  refine cnew (ci := 1) C hH (by decide) (nw_X4_31 _ (List.mem_of_getElem? (i := 0) rfl)) (nw_X4_31 _ (List.mem_of_getElem? (i := 1) rfl)) (nw_X4_31 _ (List.mem_of_getElem? (i := 2) rfl)) (Nat.le_of_ble_eq_true rfl) (Nat.le_of_ble_eq_true rfl) dX4_init_90 (fun p9 H hH => ?_)
  have hH : cH s D A ((oB z 4 [.long 0, .int 0, .int 0, .int 0, .int 0, .int (1), .ref q37, .ref q46, .ref p1, .ref p2] :: rQ q37 ca 3 8 (va_up (va_up (va_up (va_up (va_up (va_up (fun _ => none) 0 (some p3)) 1 (some p4)) 2 (some p5)) 3 (some p6)) 4 (some p7)) 5 (some p8)) :: rQ q46 ca 4 6 (fun _ => none) :: oB p1 1 [.int 0, .int 0, .int 0] :: oB p2 5 [.int 0, .int 0, .int 0, .int 0, .int 0, .int 0, .int 0, .int 0, .int 0, .int 0, .int 0, .int 0] :: oB p3 1 [.int 0, .int 0, .int 0] :: oB p4 1 [.int 0, .int 0, .int 0] :: oB p5 1 [.int 0, .int 0, .int 0] :: oB p6 1 [.int 0, .int 0, .int 0] :: oB p7 1 [.int 0, .int 0, .int 0] :: oB p8 1 [.int 0, .int 0, .int 0] :: []) ++ [oB p9 1 (xdf 1)]) H _ := hH
  refine lv_dup hx hb dX4_init_93 rfl ?_
  refine cinitN (host := RX6) (n := 0) (As := []) mX1_init C hH hF.1.2.1 ci_X4_43 rfl ⟨by decide, by decide, by decide +kernel⟩ rfl ⟨Nat.le_of_ble_eq_true rfl, Nat.le_of_ble_eq_true rfl⟩ ⟨Nat.le_of_ble_eq_true rfl, Nat.le_of_ble_eq_true rfl⟩ hl.1 (Nat.le_of_ble_eq_true rfl) dX4_init_94 (fun H locs wp9 hpp9 hH => ?_)
  have hpp : wp9 = [oB p9 1 [.int 0, .int 0, .int 0]] := hpp9
  subst hpp
  have hH : cH s D A (oB z 4 [.long 0, .int 0, .int 0, .int 0, .int 0, .int (1), .ref q37, .ref q46, .ref p1, .ref p2] :: rQ q37 ca 3 8 (va_up (va_up (va_up (va_up (va_up (va_up (fun _ => none) 0 (some p3)) 1 (some p4)) 2 (some p5)) 3 (some p6)) 4 (some p7)) 5 (some p8)) :: rQ q46 ca 4 6 (fun _ => none) :: oB p1 1 [.int 0, .int 0, .int 0] :: oB p2 5 [.int 0, .int 0, .int 0, .int 0, .int 0, .int 0, .int 0, .int 0, .int 0, .int 0, .int 0, .int 0] :: oB p3 1 [.int 0, .int 0, .int 0] :: oB p4 1 [.int 0, .int 0, .int 0] :: oB p5 1 [.int 0, .int 0, .int 0] :: oB p6 1 [.int 0, .int 0, .int 0] :: oB p7 1 [.int 0, .int 0, .int 0] :: oB p8 1 [.int 0, .int 0, .int 0] :: oB p9 1 [.int 0, .int 0, .int 0] :: []) H locs := hH
  refine cstq (q0 := 1) (t0 := 3) (qk := 11) (ci := 1) (j := 6) C hH rfl rfl rfl (by decide) (by decide) (by decide) dX4_init_97 (fun H locs hH => ?_)
  have hH : cH s D A (oB z 4 [.long 0, .int 0, .int 0, .int 0, .int 0, .int (1), .ref q37, .ref q46, .ref p1, .ref p2] :: rQ q37 ca 3 8 (va_up (va_up (va_up (va_up (va_up (va_up (va_up (fun _ => none) 0 (some p3)) 1 (some p4)) 2 (some p5)) 3 (some p6)) 4 (some p7)) 5 (some p8)) 6 (some p9)) :: rQ q46 ca 4 6 (fun _ => none) :: oB p1 1 [.int 0, .int 0, .int 0] :: oB p2 5 [.int 0, .int 0, .int 0, .int 0, .int 0, .int 0, .int 0, .int 0, .int 0, .int 0, .int 0, .int 0] :: oB p3 1 [.int 0, .int 0, .int 0] :: oB p4 1 [.int 0, .int 0, .int 0] :: oB p5 1 [.int 0, .int 0, .int 0] :: oB p6 1 [.int 0, .int 0, .int 0] :: oB p7 1 [.int 0, .int 0, .int 0] :: oB p8 1 [.int 0, .int 0, .int 0] :: oB p9 1 [.int 0, .int 0, .int 0] :: []) H locs := hH
  refine lv_iinc (v := nI 7) (lv' := [(1, .int (nI 7)), (0, .ref z)]) hx hb dX4_init_98 hl (k := 0) rfl (by decide) (by decide) rfl (fun ls hl => ?_)
  refine lv_goto (tgt := 76) hx hb dX4_init_101 (by decide) ?_
  refine lv_iload_n hx hb dX4_init_76 rfl (lv_at hl 0 rfl) ?_
  refine lv_aload_n hx hb dX4_init_77 rfl (lv_at hl 1 rfl) ?_
  refine cget (ci := 4) (f := 6) (v := .ref q37) C hH (by decide) (by decide) rfl (fk_in fldX4_ok fl_X4_33 (by decide)) dX4_init_78 ?_
  refine clen (q0 := 1) (t0 := 3) (v := (8)) C hH rfl rfl rfl dX4_init_81 ?_
  refine lv_icmp_ge (tgt := 104) hx hb dX4_init_82 (by decide) (fun h => absurd h (by decide)) (fun _ => ?_)
  refine lv_aload_n hx hb dX4_init_85 rfl (lv_at hl 1 rfl) ?_
  refine cget (ci := 4) (f := 6) (v := .ref q37) C hH (by decide) (by decide) rfl (fk_in fldX4_ok fl_X4_33 (by decide)) dX4_init_86 ?_
  refine lv_iload_n hx hb dX4_init_89 rfl (lv_at hl 0 rfl) ?_
  refine cnew (ci := 1) C hH (by decide) (nw_X4_31 _ (List.mem_of_getElem? (i := 0) rfl)) (nw_X4_31 _ (List.mem_of_getElem? (i := 1) rfl)) (nw_X4_31 _ (List.mem_of_getElem? (i := 2) rfl)) (Nat.le_of_ble_eq_true rfl) (Nat.le_of_ble_eq_true rfl) dX4_init_90 (fun p10 H hH => ?_)
  have hH : cH s D A ((oB z 4 [.long 0, .int 0, .int 0, .int 0, .int 0, .int (1), .ref q37, .ref q46, .ref p1, .ref p2] :: rQ q37 ca 3 8 (va_up (va_up (va_up (va_up (va_up (va_up (va_up (fun _ => none) 0 (some p3)) 1 (some p4)) 2 (some p5)) 3 (some p6)) 4 (some p7)) 5 (some p8)) 6 (some p9)) :: rQ q46 ca 4 6 (fun _ => none) :: oB p1 1 [.int 0, .int 0, .int 0] :: oB p2 5 [.int 0, .int 0, .int 0, .int 0, .int 0, .int 0, .int 0, .int 0, .int 0, .int 0, .int 0, .int 0] :: oB p3 1 [.int 0, .int 0, .int 0] :: oB p4 1 [.int 0, .int 0, .int 0] :: oB p5 1 [.int 0, .int 0, .int 0] :: oB p6 1 [.int 0, .int 0, .int 0] :: oB p7 1 [.int 0, .int 0, .int 0] :: oB p8 1 [.int 0, .int 0, .int 0] :: oB p9 1 [.int 0, .int 0, .int 0] :: []) ++ [oB p10 1 (xdf 1)]) H _ := hH
  refine lv_dup hx hb dX4_init_93 rfl ?_
  refine cinitN (host := RX6) (n := 0) (As := []) mX1_init C hH hF.1.2.1 ci_X4_43 rfl ⟨by decide, by decide, by decide +kernel⟩ rfl ⟨Nat.le_of_ble_eq_true rfl, Nat.le_of_ble_eq_true rfl⟩ ⟨Nat.le_of_ble_eq_true rfl, Nat.le_of_ble_eq_true rfl⟩ hl.1 (Nat.le_of_ble_eq_true rfl) dX4_init_94 (fun H locs wp10 hpp10 hH => ?_)
  have hpp : wp10 = [oB p10 1 [.int 0, .int 0, .int 0]] := hpp10
  subst hpp
  have hH : cH s D A (oB z 4 [.long 0, .int 0, .int 0, .int 0, .int 0, .int (1), .ref q37, .ref q46, .ref p1, .ref p2] :: rQ q37 ca 3 8 (va_up (va_up (va_up (va_up (va_up (va_up (va_up (fun _ => none) 0 (some p3)) 1 (some p4)) 2 (some p5)) 3 (some p6)) 4 (some p7)) 5 (some p8)) 6 (some p9)) :: rQ q46 ca 4 6 (fun _ => none) :: oB p1 1 [.int 0, .int 0, .int 0] :: oB p2 5 [.int 0, .int 0, .int 0, .int 0, .int 0, .int 0, .int 0, .int 0, .int 0, .int 0, .int 0, .int 0] :: oB p3 1 [.int 0, .int 0, .int 0] :: oB p4 1 [.int 0, .int 0, .int 0] :: oB p5 1 [.int 0, .int 0, .int 0] :: oB p6 1 [.int 0, .int 0, .int 0] :: oB p7 1 [.int 0, .int 0, .int 0] :: oB p8 1 [.int 0, .int 0, .int 0] :: oB p9 1 [.int 0, .int 0, .int 0] :: oB p10 1 [.int 0, .int 0, .int 0] :: []) H locs := hH
  refine cstq (q0 := 1) (t0 := 3) (qk := 12) (ci := 1) (j := 7) C hH rfl rfl rfl (by decide) (by decide) (by decide) dX4_init_97 (fun H locs hH => ?_)
  have hH : cH s D A (oB z 4 [.long 0, .int 0, .int 0, .int 0, .int 0, .int (1), .ref q37, .ref q46, .ref p1, .ref p2] :: rQ q37 ca 3 8 (va_up (va_up (va_up (va_up (va_up (va_up (va_up (va_up (fun _ => none) 0 (some p3)) 1 (some p4)) 2 (some p5)) 3 (some p6)) 4 (some p7)) 5 (some p8)) 6 (some p9)) 7 (some p10)) :: rQ q46 ca 4 6 (fun _ => none) :: oB p1 1 [.int 0, .int 0, .int 0] :: oB p2 5 [.int 0, .int 0, .int 0, .int 0, .int 0, .int 0, .int 0, .int 0, .int 0, .int 0, .int 0, .int 0] :: oB p3 1 [.int 0, .int 0, .int 0] :: oB p4 1 [.int 0, .int 0, .int 0] :: oB p5 1 [.int 0, .int 0, .int 0] :: oB p6 1 [.int 0, .int 0, .int 0] :: oB p7 1 [.int 0, .int 0, .int 0] :: oB p8 1 [.int 0, .int 0, .int 0] :: oB p9 1 [.int 0, .int 0, .int 0] :: oB p10 1 [.int 0, .int 0, .int 0] :: []) H locs := hH
  refine lv_iinc (v := nI 8) (lv' := [(1, .int (nI 8)), (0, .ref z)]) hx hb dX4_init_98 hl (k := 0) rfl (by decide) (by decide) rfl (fun ls hl => ?_)
  refine lv_goto (tgt := 76) hx hb dX4_init_101 (by decide) ?_
  refine lv_iload_n hx hb dX4_init_76 rfl (lv_at hl 0 rfl) ?_
  refine lv_aload_n hx hb dX4_init_77 rfl (lv_at hl 1 rfl) ?_
  refine cget (ci := 4) (f := 6) (v := .ref q37) C hH (by decide) (by decide) rfl (fk_in fldX4_ok fl_X4_33 (by decide)) dX4_init_78 ?_
  refine clen (q0 := 1) (t0 := 3) (v := (8)) C hH rfl rfl rfl dX4_init_81 ?_
  refine lv_icmp_ge (tgt := 104) hx hb dX4_init_82 (by decide) (fun _ => ?_) (fun h => absurd (by decide) h)
  refine lv_iconst (v := nI 0) hx hb dX4_init_104 (by decide) ?_
  refine lv_istore_n (lv' := [(1, .int (nI 0)), (0, .ref z)]) hx hb dX4_init_105 rfl hl (by decide) rfl (fun ls hl => ?_)
  refine lv_iload_n hx hb dX4_init_106 rfl (lv_at hl 0 rfl) ?_
  refine lv_aload_n hx hb dX4_init_107 rfl (lv_at hl 1 rfl) ?_
  refine cget (ci := 4) (f := 7) (v := .ref q46) C hH (by decide) (by decide) rfl (fk_in fldX4_ok fl_X4_39 (by decide)) dX4_init_108 ?_
  refine clen (q0 := 2) (t0 := 4) (v := (6)) C hH rfl rfl rfl dX4_init_111 ?_
  refine lv_icmp_ge (tgt := 134) hx hb dX4_init_112 (by decide) (fun h => absurd h (by decide)) (fun _ => ?_)
  refine lv_aload_n hx hb dX4_init_115 rfl (lv_at hl 1 rfl) ?_
  refine cget (ci := 4) (f := 7) (v := .ref q46) C hH (by decide) (by decide) rfl (fk_in fldX4_ok fl_X4_39 (by decide)) dX4_init_116 ?_
  refine lv_iload_n hx hb dX4_init_119 rfl (lv_at hl 0 rfl) ?_
  refine cnew (ci := 5) C hH (by decide) (nw_X4_37 _ (List.mem_of_getElem? (i := 0) rfl)) (nw_X4_37 _ (List.mem_of_getElem? (i := 1) rfl)) (nw_X4_37 _ (List.mem_of_getElem? (i := 2) rfl)) (Nat.le_of_ble_eq_true rfl) (Nat.le_of_ble_eq_true rfl) dX4_init_120 (fun p11 H hH => ?_)
  have hH : cH s D A ((oB z 4 [.long 0, .int 0, .int 0, .int 0, .int 0, .int (1), .ref q37, .ref q46, .ref p1, .ref p2] :: rQ q37 ca 3 8 (va_up (va_up (va_up (va_up (va_up (va_up (va_up (va_up (fun _ => none) 0 (some p3)) 1 (some p4)) 2 (some p5)) 3 (some p6)) 4 (some p7)) 5 (some p8)) 6 (some p9)) 7 (some p10)) :: rQ q46 ca 4 6 (fun _ => none) :: oB p1 1 [.int 0, .int 0, .int 0] :: oB p2 5 [.int 0, .int 0, .int 0, .int 0, .int 0, .int 0, .int 0, .int 0, .int 0, .int 0, .int 0, .int 0] :: oB p3 1 [.int 0, .int 0, .int 0] :: oB p4 1 [.int 0, .int 0, .int 0] :: oB p5 1 [.int 0, .int 0, .int 0] :: oB p6 1 [.int 0, .int 0, .int 0] :: oB p7 1 [.int 0, .int 0, .int 0] :: oB p8 1 [.int 0, .int 0, .int 0] :: oB p9 1 [.int 0, .int 0, .int 0] :: oB p10 1 [.int 0, .int 0, .int 0] :: []) ++ [oB p11 5 (xdf 5)]) H _ := hH
  refine lv_dup hx hb dX4_init_123 rfl ?_
  refine cinitN (host := RX6) (n := 0) (As := []) mX5_init C hH hF.1.2.2 ci_X4_48 rfl ⟨by decide, by decide, by decide +kernel⟩ rfl ⟨Nat.le_of_ble_eq_true rfl, Nat.le_of_ble_eq_true rfl⟩ ⟨Nat.le_of_ble_eq_true rfl, Nat.le_of_ble_eq_true rfl⟩ hl.1 (Nat.le_of_ble_eq_true rfl) dX4_init_124 (fun H locs wp11 hpp11 hH => ?_)
  have hpp : wp11 = [oB p11 5 [.int 0, .int 0, .int 0, .int 0, .int 0, .int 0, .int 0, .int 0, .int 0, .int 0, .int 0, .int 0]] := hpp11
  subst hpp
  have hH : cH s D A (oB z 4 [.long 0, .int 0, .int 0, .int 0, .int 0, .int (1), .ref q37, .ref q46, .ref p1, .ref p2] :: rQ q37 ca 3 8 (va_up (va_up (va_up (va_up (va_up (va_up (va_up (va_up (fun _ => none) 0 (some p3)) 1 (some p4)) 2 (some p5)) 3 (some p6)) 4 (some p7)) 5 (some p8)) 6 (some p9)) 7 (some p10)) :: rQ q46 ca 4 6 (fun _ => none) :: oB p1 1 [.int 0, .int 0, .int 0] :: oB p2 5 [.int 0, .int 0, .int 0, .int 0, .int 0, .int 0, .int 0, .int 0, .int 0, .int 0, .int 0, .int 0] :: oB p3 1 [.int 0, .int 0, .int 0] :: oB p4 1 [.int 0, .int 0, .int 0] :: oB p5 1 [.int 0, .int 0, .int 0] :: oB p6 1 [.int 0, .int 0, .int 0] :: oB p7 1 [.int 0, .int 0, .int 0] :: oB p8 1 [.int 0, .int 0, .int 0] :: oB p9 1 [.int 0, .int 0, .int 0] :: oB p10 1 [.int 0, .int 0, .int 0] :: oB p11 5 [.int 0, .int 0, .int 0, .int 0, .int 0, .int 0, .int 0, .int 0, .int 0, .int 0, .int 0, .int 0] :: []) H locs := hH
  refine cstq (q0 := 2) (t0 := 4) (qk := 13) (ci := 5) (j := 0) C hH rfl rfl rfl (by decide) (by decide) (by decide) dX4_init_127 (fun H locs hH => ?_)
  have hH : cH s D A (oB z 4 [.long 0, .int 0, .int 0, .int 0, .int 0, .int (1), .ref q37, .ref q46, .ref p1, .ref p2] :: rQ q37 ca 3 8 (va_up (va_up (va_up (va_up (va_up (va_up (va_up (va_up (fun _ => none) 0 (some p3)) 1 (some p4)) 2 (some p5)) 3 (some p6)) 4 (some p7)) 5 (some p8)) 6 (some p9)) 7 (some p10)) :: rQ q46 ca 4 6 (va_up (fun _ => none) 0 (some p11)) :: oB p1 1 [.int 0, .int 0, .int 0] :: oB p2 5 [.int 0, .int 0, .int 0, .int 0, .int 0, .int 0, .int 0, .int 0, .int 0, .int 0, .int 0, .int 0] :: oB p3 1 [.int 0, .int 0, .int 0] :: oB p4 1 [.int 0, .int 0, .int 0] :: oB p5 1 [.int 0, .int 0, .int 0] :: oB p6 1 [.int 0, .int 0, .int 0] :: oB p7 1 [.int 0, .int 0, .int 0] :: oB p8 1 [.int 0, .int 0, .int 0] :: oB p9 1 [.int 0, .int 0, .int 0] :: oB p10 1 [.int 0, .int 0, .int 0] :: oB p11 5 [.int 0, .int 0, .int 0, .int 0, .int 0, .int 0, .int 0, .int 0, .int 0, .int 0, .int 0, .int 0] :: []) H locs := hH
  refine lv_iinc (v := nI 1) (lv' := [(1, .int (nI 1)), (0, .ref z)]) hx hb dX4_init_128 hl (k := 0) rfl (by decide) (by decide) rfl (fun ls hl => ?_)
  refine lv_goto (tgt := 106) hx hb dX4_init_131 (by decide) ?_
  refine lv_iload_n hx hb dX4_init_106 rfl (lv_at hl 0 rfl) ?_
  refine lv_aload_n hx hb dX4_init_107 rfl (lv_at hl 1 rfl) ?_
  refine cget (ci := 4) (f := 7) (v := .ref q46) C hH (by decide) (by decide) rfl (fk_in fldX4_ok fl_X4_39 (by decide)) dX4_init_108 ?_
  refine clen (q0 := 2) (t0 := 4) (v := (6)) C hH rfl rfl rfl dX4_init_111 ?_
  refine lv_icmp_ge (tgt := 134) hx hb dX4_init_112 (by decide) (fun h => absurd h (by decide)) (fun _ => ?_)
  refine lv_aload_n hx hb dX4_init_115 rfl (lv_at hl 1 rfl) ?_
  refine cget (ci := 4) (f := 7) (v := .ref q46) C hH (by decide) (by decide) rfl (fk_in fldX4_ok fl_X4_39 (by decide)) dX4_init_116 ?_
  refine lv_iload_n hx hb dX4_init_119 rfl (lv_at hl 0 rfl) ?_
  refine cnew (ci := 5) C hH (by decide) (nw_X4_37 _ (List.mem_of_getElem? (i := 0) rfl)) (nw_X4_37 _ (List.mem_of_getElem? (i := 1) rfl)) (nw_X4_37 _ (List.mem_of_getElem? (i := 2) rfl)) (Nat.le_of_ble_eq_true rfl) (Nat.le_of_ble_eq_true rfl) dX4_init_120 (fun p12 H hH => ?_)
  have hH : cH s D A ((oB z 4 [.long 0, .int 0, .int 0, .int 0, .int 0, .int (1), .ref q37, .ref q46, .ref p1, .ref p2] :: rQ q37 ca 3 8 (va_up (va_up (va_up (va_up (va_up (va_up (va_up (va_up (fun _ => none) 0 (some p3)) 1 (some p4)) 2 (some p5)) 3 (some p6)) 4 (some p7)) 5 (some p8)) 6 (some p9)) 7 (some p10)) :: rQ q46 ca 4 6 (va_up (fun _ => none) 0 (some p11)) :: oB p1 1 [.int 0, .int 0, .int 0] :: oB p2 5 [.int 0, .int 0, .int 0, .int 0, .int 0, .int 0, .int 0, .int 0, .int 0, .int 0, .int 0, .int 0] :: oB p3 1 [.int 0, .int 0, .int 0] :: oB p4 1 [.int 0, .int 0, .int 0] :: oB p5 1 [.int 0, .int 0, .int 0] :: oB p6 1 [.int 0, .int 0, .int 0] :: oB p7 1 [.int 0, .int 0, .int 0] :: oB p8 1 [.int 0, .int 0, .int 0] :: oB p9 1 [.int 0, .int 0, .int 0] :: oB p10 1 [.int 0, .int 0, .int 0] :: oB p11 5 [.int 0, .int 0, .int 0, .int 0, .int 0, .int 0, .int 0, .int 0, .int 0, .int 0, .int 0, .int 0] :: []) ++ [oB p12 5 (xdf 5)]) H _ := hH
  refine lv_dup hx hb dX4_init_123 rfl ?_
  refine cinitN (host := RX6) (n := 0) (As := []) mX5_init C hH hF.1.2.2 ci_X4_48 rfl ⟨by decide, by decide, by decide +kernel⟩ rfl ⟨Nat.le_of_ble_eq_true rfl, Nat.le_of_ble_eq_true rfl⟩ ⟨Nat.le_of_ble_eq_true rfl, Nat.le_of_ble_eq_true rfl⟩ hl.1 (Nat.le_of_ble_eq_true rfl) dX4_init_124 (fun H locs wp12 hpp12 hH => ?_)
  have hpp : wp12 = [oB p12 5 [.int 0, .int 0, .int 0, .int 0, .int 0, .int 0, .int 0, .int 0, .int 0, .int 0, .int 0, .int 0]] := hpp12
  subst hpp
  have hH : cH s D A (oB z 4 [.long 0, .int 0, .int 0, .int 0, .int 0, .int (1), .ref q37, .ref q46, .ref p1, .ref p2] :: rQ q37 ca 3 8 (va_up (va_up (va_up (va_up (va_up (va_up (va_up (va_up (fun _ => none) 0 (some p3)) 1 (some p4)) 2 (some p5)) 3 (some p6)) 4 (some p7)) 5 (some p8)) 6 (some p9)) 7 (some p10)) :: rQ q46 ca 4 6 (va_up (fun _ => none) 0 (some p11)) :: oB p1 1 [.int 0, .int 0, .int 0] :: oB p2 5 [.int 0, .int 0, .int 0, .int 0, .int 0, .int 0, .int 0, .int 0, .int 0, .int 0, .int 0, .int 0] :: oB p3 1 [.int 0, .int 0, .int 0] :: oB p4 1 [.int 0, .int 0, .int 0] :: oB p5 1 [.int 0, .int 0, .int 0] :: oB p6 1 [.int 0, .int 0, .int 0] :: oB p7 1 [.int 0, .int 0, .int 0] :: oB p8 1 [.int 0, .int 0, .int 0] :: oB p9 1 [.int 0, .int 0, .int 0] :: oB p10 1 [.int 0, .int 0, .int 0] :: oB p11 5 [.int 0, .int 0, .int 0, .int 0, .int 0, .int 0, .int 0, .int 0, .int 0, .int 0, .int 0, .int 0] :: oB p12 5 [.int 0, .int 0, .int 0, .int 0, .int 0, .int 0, .int 0, .int 0, .int 0, .int 0, .int 0, .int 0] :: []) H locs := hH
  refine cstq (q0 := 2) (t0 := 4) (qk := 14) (ci := 5) (j := 1) C hH rfl rfl rfl (by decide) (by decide) (by decide) dX4_init_127 (fun H locs hH => ?_)
  have hH : cH s D A (oB z 4 [.long 0, .int 0, .int 0, .int 0, .int 0, .int (1), .ref q37, .ref q46, .ref p1, .ref p2] :: rQ q37 ca 3 8 (va_up (va_up (va_up (va_up (va_up (va_up (va_up (va_up (fun _ => none) 0 (some p3)) 1 (some p4)) 2 (some p5)) 3 (some p6)) 4 (some p7)) 5 (some p8)) 6 (some p9)) 7 (some p10)) :: rQ q46 ca 4 6 (va_up (va_up (fun _ => none) 0 (some p11)) 1 (some p12)) :: oB p1 1 [.int 0, .int 0, .int 0] :: oB p2 5 [.int 0, .int 0, .int 0, .int 0, .int 0, .int 0, .int 0, .int 0, .int 0, .int 0, .int 0, .int 0] :: oB p3 1 [.int 0, .int 0, .int 0] :: oB p4 1 [.int 0, .int 0, .int 0] :: oB p5 1 [.int 0, .int 0, .int 0] :: oB p6 1 [.int 0, .int 0, .int 0] :: oB p7 1 [.int 0, .int 0, .int 0] :: oB p8 1 [.int 0, .int 0, .int 0] :: oB p9 1 [.int 0, .int 0, .int 0] :: oB p10 1 [.int 0, .int 0, .int 0] :: oB p11 5 [.int 0, .int 0, .int 0, .int 0, .int 0, .int 0, .int 0, .int 0, .int 0, .int 0, .int 0, .int 0] :: oB p12 5 [.int 0, .int 0, .int 0, .int 0, .int 0, .int 0, .int 0, .int 0, .int 0, .int 0, .int 0, .int 0] :: []) H locs := hH
  refine lv_iinc (v := nI 2) (lv' := [(1, .int (nI 2)), (0, .ref z)]) hx hb dX4_init_128 hl (k := 0) rfl (by decide) (by decide) rfl (fun ls hl => ?_)
  refine lv_goto (tgt := 106) hx hb dX4_init_131 (by decide) ?_
  refine lv_iload_n hx hb dX4_init_106 rfl (lv_at hl 0 rfl) ?_
  refine lv_aload_n hx hb dX4_init_107 rfl (lv_at hl 1 rfl) ?_
  refine cget (ci := 4) (f := 7) (v := .ref q46) C hH (by decide) (by decide) rfl (fk_in fldX4_ok fl_X4_39 (by decide)) dX4_init_108 ?_
  refine clen (q0 := 2) (t0 := 4) (v := (6)) C hH rfl rfl rfl dX4_init_111 ?_
  refine lv_icmp_ge (tgt := 134) hx hb dX4_init_112 (by decide) (fun h => absurd h (by decide)) (fun _ => ?_)
  refine lv_aload_n hx hb dX4_init_115 rfl (lv_at hl 1 rfl) ?_
  refine cget (ci := 4) (f := 7) (v := .ref q46) C hH (by decide) (by decide) rfl (fk_in fldX4_ok fl_X4_39 (by decide)) dX4_init_116 ?_
  refine lv_iload_n hx hb dX4_init_119 rfl (lv_at hl 0 rfl) ?_
  refine cnew (ci := 5) C hH (by decide) (nw_X4_37 _ (List.mem_of_getElem? (i := 0) rfl)) (nw_X4_37 _ (List.mem_of_getElem? (i := 1) rfl)) (nw_X4_37 _ (List.mem_of_getElem? (i := 2) rfl)) (Nat.le_of_ble_eq_true rfl) (Nat.le_of_ble_eq_true rfl) dX4_init_120 (fun p13 H hH => ?_)
  have hH : cH s D A ((oB z 4 [.long 0, .int 0, .int 0, .int 0, .int 0, .int (1), .ref q37, .ref q46, .ref p1, .ref p2] :: rQ q37 ca 3 8 (va_up (va_up (va_up (va_up (va_up (va_up (va_up (va_up (fun _ => none) 0 (some p3)) 1 (some p4)) 2 (some p5)) 3 (some p6)) 4 (some p7)) 5 (some p8)) 6 (some p9)) 7 (some p10)) :: rQ q46 ca 4 6 (va_up (va_up (fun _ => none) 0 (some p11)) 1 (some p12)) :: oB p1 1 [.int 0, .int 0, .int 0] :: oB p2 5 [.int 0, .int 0, .int 0, .int 0, .int 0, .int 0, .int 0, .int 0, .int 0, .int 0, .int 0, .int 0] :: oB p3 1 [.int 0, .int 0, .int 0] :: oB p4 1 [.int 0, .int 0, .int 0] :: oB p5 1 [.int 0, .int 0, .int 0] :: oB p6 1 [.int 0, .int 0, .int 0] :: oB p7 1 [.int 0, .int 0, .int 0] :: oB p8 1 [.int 0, .int 0, .int 0] :: oB p9 1 [.int 0, .int 0, .int 0] :: oB p10 1 [.int 0, .int 0, .int 0] :: oB p11 5 [.int 0, .int 0, .int 0, .int 0, .int 0, .int 0, .int 0, .int 0, .int 0, .int 0, .int 0, .int 0] :: oB p12 5 [.int 0, .int 0, .int 0, .int 0, .int 0, .int 0, .int 0, .int 0, .int 0, .int 0, .int 0, .int 0] :: []) ++ [oB p13 5 (xdf 5)]) H _ := hH
  refine lv_dup hx hb dX4_init_123 rfl ?_
  refine cinitN (host := RX6) (n := 0) (As := []) mX5_init C hH hF.1.2.2 ci_X4_48 rfl ⟨by decide, by decide, by decide +kernel⟩ rfl ⟨Nat.le_of_ble_eq_true rfl, Nat.le_of_ble_eq_true rfl⟩ ⟨Nat.le_of_ble_eq_true rfl, Nat.le_of_ble_eq_true rfl⟩ hl.1 (Nat.le_of_ble_eq_true rfl) dX4_init_124 (fun H locs wp13 hpp13 hH => ?_)
  have hpp : wp13 = [oB p13 5 [.int 0, .int 0, .int 0, .int 0, .int 0, .int 0, .int 0, .int 0, .int 0, .int 0, .int 0, .int 0]] := hpp13
  subst hpp
  have hH : cH s D A (oB z 4 [.long 0, .int 0, .int 0, .int 0, .int 0, .int (1), .ref q37, .ref q46, .ref p1, .ref p2] :: rQ q37 ca 3 8 (va_up (va_up (va_up (va_up (va_up (va_up (va_up (va_up (fun _ => none) 0 (some p3)) 1 (some p4)) 2 (some p5)) 3 (some p6)) 4 (some p7)) 5 (some p8)) 6 (some p9)) 7 (some p10)) :: rQ q46 ca 4 6 (va_up (va_up (fun _ => none) 0 (some p11)) 1 (some p12)) :: oB p1 1 [.int 0, .int 0, .int 0] :: oB p2 5 [.int 0, .int 0, .int 0, .int 0, .int 0, .int 0, .int 0, .int 0, .int 0, .int 0, .int 0, .int 0] :: oB p3 1 [.int 0, .int 0, .int 0] :: oB p4 1 [.int 0, .int 0, .int 0] :: oB p5 1 [.int 0, .int 0, .int 0] :: oB p6 1 [.int 0, .int 0, .int 0] :: oB p7 1 [.int 0, .int 0, .int 0] :: oB p8 1 [.int 0, .int 0, .int 0] :: oB p9 1 [.int 0, .int 0, .int 0] :: oB p10 1 [.int 0, .int 0, .int 0] :: oB p11 5 [.int 0, .int 0, .int 0, .int 0, .int 0, .int 0, .int 0, .int 0, .int 0, .int 0, .int 0, .int 0] :: oB p12 5 [.int 0, .int 0, .int 0, .int 0, .int 0, .int 0, .int 0, .int 0, .int 0, .int 0, .int 0, .int 0] :: oB p13 5 [.int 0, .int 0, .int 0, .int 0, .int 0, .int 0, .int 0, .int 0, .int 0, .int 0, .int 0, .int 0] :: []) H locs := hH
  refine cstq (q0 := 2) (t0 := 4) (qk := 15) (ci := 5) (j := 2) C hH rfl rfl rfl (by decide) (by decide) (by decide) dX4_init_127 (fun H locs hH => ?_)
  have hH : cH s D A (oB z 4 [.long 0, .int 0, .int 0, .int 0, .int 0, .int (1), .ref q37, .ref q46, .ref p1, .ref p2] :: rQ q37 ca 3 8 (va_up (va_up (va_up (va_up (va_up (va_up (va_up (va_up (fun _ => none) 0 (some p3)) 1 (some p4)) 2 (some p5)) 3 (some p6)) 4 (some p7)) 5 (some p8)) 6 (some p9)) 7 (some p10)) :: rQ q46 ca 4 6 (va_up (va_up (va_up (fun _ => none) 0 (some p11)) 1 (some p12)) 2 (some p13)) :: oB p1 1 [.int 0, .int 0, .int 0] :: oB p2 5 [.int 0, .int 0, .int 0, .int 0, .int 0, .int 0, .int 0, .int 0, .int 0, .int 0, .int 0, .int 0] :: oB p3 1 [.int 0, .int 0, .int 0] :: oB p4 1 [.int 0, .int 0, .int 0] :: oB p5 1 [.int 0, .int 0, .int 0] :: oB p6 1 [.int 0, .int 0, .int 0] :: oB p7 1 [.int 0, .int 0, .int 0] :: oB p8 1 [.int 0, .int 0, .int 0] :: oB p9 1 [.int 0, .int 0, .int 0] :: oB p10 1 [.int 0, .int 0, .int 0] :: oB p11 5 [.int 0, .int 0, .int 0, .int 0, .int 0, .int 0, .int 0, .int 0, .int 0, .int 0, .int 0, .int 0] :: oB p12 5 [.int 0, .int 0, .int 0, .int 0, .int 0, .int 0, .int 0, .int 0, .int 0, .int 0, .int 0, .int 0] :: oB p13 5 [.int 0, .int 0, .int 0, .int 0, .int 0, .int 0, .int 0, .int 0, .int 0, .int 0, .int 0, .int 0] :: []) H locs := hH
  refine lv_iinc (v := nI 3) (lv' := [(1, .int (nI 3)), (0, .ref z)]) hx hb dX4_init_128 hl (k := 0) rfl (by decide) (by decide) rfl (fun ls hl => ?_)
  refine lv_goto (tgt := 106) hx hb dX4_init_131 (by decide) ?_
  refine lv_iload_n hx hb dX4_init_106 rfl (lv_at hl 0 rfl) ?_
  refine lv_aload_n hx hb dX4_init_107 rfl (lv_at hl 1 rfl) ?_
  refine cget (ci := 4) (f := 7) (v := .ref q46) C hH (by decide) (by decide) rfl (fk_in fldX4_ok fl_X4_39 (by decide)) dX4_init_108 ?_
  refine clen (q0 := 2) (t0 := 4) (v := (6)) C hH rfl rfl rfl dX4_init_111 ?_
  refine lv_icmp_ge (tgt := 134) hx hb dX4_init_112 (by decide) (fun h => absurd h (by decide)) (fun _ => ?_)
  refine lv_aload_n hx hb dX4_init_115 rfl (lv_at hl 1 rfl) ?_
  refine cget (ci := 4) (f := 7) (v := .ref q46) C hH (by decide) (by decide) rfl (fk_in fldX4_ok fl_X4_39 (by decide)) dX4_init_116 ?_
  refine lv_iload_n hx hb dX4_init_119 rfl (lv_at hl 0 rfl) ?_
  refine cnew (ci := 5) C hH (by decide) (nw_X4_37 _ (List.mem_of_getElem? (i := 0) rfl)) (nw_X4_37 _ (List.mem_of_getElem? (i := 1) rfl)) (nw_X4_37 _ (List.mem_of_getElem? (i := 2) rfl)) (Nat.le_of_ble_eq_true rfl) (Nat.le_of_ble_eq_true rfl) dX4_init_120 (fun p14 H hH => ?_)
  have hH : cH s D A ((oB z 4 [.long 0, .int 0, .int 0, .int 0, .int 0, .int (1), .ref q37, .ref q46, .ref p1, .ref p2] :: rQ q37 ca 3 8 (va_up (va_up (va_up (va_up (va_up (va_up (va_up (va_up (fun _ => none) 0 (some p3)) 1 (some p4)) 2 (some p5)) 3 (some p6)) 4 (some p7)) 5 (some p8)) 6 (some p9)) 7 (some p10)) :: rQ q46 ca 4 6 (va_up (va_up (va_up (fun _ => none) 0 (some p11)) 1 (some p12)) 2 (some p13)) :: oB p1 1 [.int 0, .int 0, .int 0] :: oB p2 5 [.int 0, .int 0, .int 0, .int 0, .int 0, .int 0, .int 0, .int 0, .int 0, .int 0, .int 0, .int 0] :: oB p3 1 [.int 0, .int 0, .int 0] :: oB p4 1 [.int 0, .int 0, .int 0] :: oB p5 1 [.int 0, .int 0, .int 0] :: oB p6 1 [.int 0, .int 0, .int 0] :: oB p7 1 [.int 0, .int 0, .int 0] :: oB p8 1 [.int 0, .int 0, .int 0] :: oB p9 1 [.int 0, .int 0, .int 0] :: oB p10 1 [.int 0, .int 0, .int 0] :: oB p11 5 [.int 0, .int 0, .int 0, .int 0, .int 0, .int 0, .int 0, .int 0, .int 0, .int 0, .int 0, .int 0] :: oB p12 5 [.int 0, .int 0, .int 0, .int 0, .int 0, .int 0, .int 0, .int 0, .int 0, .int 0, .int 0, .int 0] :: oB p13 5 [.int 0, .int 0, .int 0, .int 0, .int 0, .int 0, .int 0, .int 0, .int 0, .int 0, .int 0, .int 0] :: []) ++ [oB p14 5 (xdf 5)]) H _ := hH
  refine lv_dup hx hb dX4_init_123 rfl ?_
  refine cinitN (host := RX6) (n := 0) (As := []) mX5_init C hH hF.1.2.2 ci_X4_48 rfl ⟨by decide, by decide, by decide +kernel⟩ rfl ⟨Nat.le_of_ble_eq_true rfl, Nat.le_of_ble_eq_true rfl⟩ ⟨Nat.le_of_ble_eq_true rfl, Nat.le_of_ble_eq_true rfl⟩ hl.1 (Nat.le_of_ble_eq_true rfl) dX4_init_124 (fun H locs wp14 hpp14 hH => ?_)
  have hpp : wp14 = [oB p14 5 [.int 0, .int 0, .int 0, .int 0, .int 0, .int 0, .int 0, .int 0, .int 0, .int 0, .int 0, .int 0]] := hpp14
  subst hpp
  have hH : cH s D A (oB z 4 [.long 0, .int 0, .int 0, .int 0, .int 0, .int (1), .ref q37, .ref q46, .ref p1, .ref p2] :: rQ q37 ca 3 8 (va_up (va_up (va_up (va_up (va_up (va_up (va_up (va_up (fun _ => none) 0 (some p3)) 1 (some p4)) 2 (some p5)) 3 (some p6)) 4 (some p7)) 5 (some p8)) 6 (some p9)) 7 (some p10)) :: rQ q46 ca 4 6 (va_up (va_up (va_up (fun _ => none) 0 (some p11)) 1 (some p12)) 2 (some p13)) :: oB p1 1 [.int 0, .int 0, .int 0] :: oB p2 5 [.int 0, .int 0, .int 0, .int 0, .int 0, .int 0, .int 0, .int 0, .int 0, .int 0, .int 0, .int 0] :: oB p3 1 [.int 0, .int 0, .int 0] :: oB p4 1 [.int 0, .int 0, .int 0] :: oB p5 1 [.int 0, .int 0, .int 0] :: oB p6 1 [.int 0, .int 0, .int 0] :: oB p7 1 [.int 0, .int 0, .int 0] :: oB p8 1 [.int 0, .int 0, .int 0] :: oB p9 1 [.int 0, .int 0, .int 0] :: oB p10 1 [.int 0, .int 0, .int 0] :: oB p11 5 [.int 0, .int 0, .int 0, .int 0, .int 0, .int 0, .int 0, .int 0, .int 0, .int 0, .int 0, .int 0] :: oB p12 5 [.int 0, .int 0, .int 0, .int 0, .int 0, .int 0, .int 0, .int 0, .int 0, .int 0, .int 0, .int 0] :: oB p13 5 [.int 0, .int 0, .int 0, .int 0, .int 0, .int 0, .int 0, .int 0, .int 0, .int 0, .int 0, .int 0] :: oB p14 5 [.int 0, .int 0, .int 0, .int 0, .int 0, .int 0, .int 0, .int 0, .int 0, .int 0, .int 0, .int 0] :: []) H locs := hH
  refine cstq (q0 := 2) (t0 := 4) (qk := 16) (ci := 5) (j := 3) C hH rfl rfl rfl (by decide) (by decide) (by decide) dX4_init_127 (fun H locs hH => ?_)
  have hH : cH s D A (oB z 4 [.long 0, .int 0, .int 0, .int 0, .int 0, .int (1), .ref q37, .ref q46, .ref p1, .ref p2] :: rQ q37 ca 3 8 (va_up (va_up (va_up (va_up (va_up (va_up (va_up (va_up (fun _ => none) 0 (some p3)) 1 (some p4)) 2 (some p5)) 3 (some p6)) 4 (some p7)) 5 (some p8)) 6 (some p9)) 7 (some p10)) :: rQ q46 ca 4 6 (va_up (va_up (va_up (va_up (fun _ => none) 0 (some p11)) 1 (some p12)) 2 (some p13)) 3 (some p14)) :: oB p1 1 [.int 0, .int 0, .int 0] :: oB p2 5 [.int 0, .int 0, .int 0, .int 0, .int 0, .int 0, .int 0, .int 0, .int 0, .int 0, .int 0, .int 0] :: oB p3 1 [.int 0, .int 0, .int 0] :: oB p4 1 [.int 0, .int 0, .int 0] :: oB p5 1 [.int 0, .int 0, .int 0] :: oB p6 1 [.int 0, .int 0, .int 0] :: oB p7 1 [.int 0, .int 0, .int 0] :: oB p8 1 [.int 0, .int 0, .int 0] :: oB p9 1 [.int 0, .int 0, .int 0] :: oB p10 1 [.int 0, .int 0, .int 0] :: oB p11 5 [.int 0, .int 0, .int 0, .int 0, .int 0, .int 0, .int 0, .int 0, .int 0, .int 0, .int 0, .int 0] :: oB p12 5 [.int 0, .int 0, .int 0, .int 0, .int 0, .int 0, .int 0, .int 0, .int 0, .int 0, .int 0, .int 0] :: oB p13 5 [.int 0, .int 0, .int 0, .int 0, .int 0, .int 0, .int 0, .int 0, .int 0, .int 0, .int 0, .int 0] :: oB p14 5 [.int 0, .int 0, .int 0, .int 0, .int 0, .int 0, .int 0, .int 0, .int 0, .int 0, .int 0, .int 0] :: []) H locs := hH
  refine lv_iinc (v := nI 4) (lv' := [(1, .int (nI 4)), (0, .ref z)]) hx hb dX4_init_128 hl (k := 0) rfl (by decide) (by decide) rfl (fun ls hl => ?_)
  refine lv_goto (tgt := 106) hx hb dX4_init_131 (by decide) ?_
  refine lv_iload_n hx hb dX4_init_106 rfl (lv_at hl 0 rfl) ?_
  refine lv_aload_n hx hb dX4_init_107 rfl (lv_at hl 1 rfl) ?_
  refine cget (ci := 4) (f := 7) (v := .ref q46) C hH (by decide) (by decide) rfl (fk_in fldX4_ok fl_X4_39 (by decide)) dX4_init_108 ?_
  refine clen (q0 := 2) (t0 := 4) (v := (6)) C hH rfl rfl rfl dX4_init_111 ?_
  refine lv_icmp_ge (tgt := 134) hx hb dX4_init_112 (by decide) (fun h => absurd h (by decide)) (fun _ => ?_)
  refine lv_aload_n hx hb dX4_init_115 rfl (lv_at hl 1 rfl) ?_
  refine cget (ci := 4) (f := 7) (v := .ref q46) C hH (by decide) (by decide) rfl (fk_in fldX4_ok fl_X4_39 (by decide)) dX4_init_116 ?_
  refine lv_iload_n hx hb dX4_init_119 rfl (lv_at hl 0 rfl) ?_
  refine cnew (ci := 5) C hH (by decide) (nw_X4_37 _ (List.mem_of_getElem? (i := 0) rfl)) (nw_X4_37 _ (List.mem_of_getElem? (i := 1) rfl)) (nw_X4_37 _ (List.mem_of_getElem? (i := 2) rfl)) (Nat.le_of_ble_eq_true rfl) (Nat.le_of_ble_eq_true rfl) dX4_init_120 (fun p15 H hH => ?_)
  have hH : cH s D A ((oB z 4 [.long 0, .int 0, .int 0, .int 0, .int 0, .int (1), .ref q37, .ref q46, .ref p1, .ref p2] :: rQ q37 ca 3 8 (va_up (va_up (va_up (va_up (va_up (va_up (va_up (va_up (fun _ => none) 0 (some p3)) 1 (some p4)) 2 (some p5)) 3 (some p6)) 4 (some p7)) 5 (some p8)) 6 (some p9)) 7 (some p10)) :: rQ q46 ca 4 6 (va_up (va_up (va_up (va_up (fun _ => none) 0 (some p11)) 1 (some p12)) 2 (some p13)) 3 (some p14)) :: oB p1 1 [.int 0, .int 0, .int 0] :: oB p2 5 [.int 0, .int 0, .int 0, .int 0, .int 0, .int 0, .int 0, .int 0, .int 0, .int 0, .int 0, .int 0] :: oB p3 1 [.int 0, .int 0, .int 0] :: oB p4 1 [.int 0, .int 0, .int 0] :: oB p5 1 [.int 0, .int 0, .int 0] :: oB p6 1 [.int 0, .int 0, .int 0] :: oB p7 1 [.int 0, .int 0, .int 0] :: oB p8 1 [.int 0, .int 0, .int 0] :: oB p9 1 [.int 0, .int 0, .int 0] :: oB p10 1 [.int 0, .int 0, .int 0] :: oB p11 5 [.int 0, .int 0, .int 0, .int 0, .int 0, .int 0, .int 0, .int 0, .int 0, .int 0, .int 0, .int 0] :: oB p12 5 [.int 0, .int 0, .int 0, .int 0, .int 0, .int 0, .int 0, .int 0, .int 0, .int 0, .int 0, .int 0] :: oB p13 5 [.int 0, .int 0, .int 0, .int 0, .int 0, .int 0, .int 0, .int 0, .int 0, .int 0, .int 0, .int 0] :: oB p14 5 [.int 0, .int 0, .int 0, .int 0, .int 0, .int 0, .int 0, .int 0, .int 0, .int 0, .int 0, .int 0] :: []) ++ [oB p15 5 (xdf 5)]) H _ := hH
  refine lv_dup hx hb dX4_init_123 rfl ?_
  refine cinitN (host := RX6) (n := 0) (As := []) mX5_init C hH hF.1.2.2 ci_X4_48 rfl ⟨by decide, by decide, by decide +kernel⟩ rfl ⟨Nat.le_of_ble_eq_true rfl, Nat.le_of_ble_eq_true rfl⟩ ⟨Nat.le_of_ble_eq_true rfl, Nat.le_of_ble_eq_true rfl⟩ hl.1 (Nat.le_of_ble_eq_true rfl) dX4_init_124 (fun H locs wp15 hpp15 hH => ?_)
  have hpp : wp15 = [oB p15 5 [.int 0, .int 0, .int 0, .int 0, .int 0, .int 0, .int 0, .int 0, .int 0, .int 0, .int 0, .int 0]] := hpp15
  subst hpp
  have hH : cH s D A (oB z 4 [.long 0, .int 0, .int 0, .int 0, .int 0, .int (1), .ref q37, .ref q46, .ref p1, .ref p2] :: rQ q37 ca 3 8 (va_up (va_up (va_up (va_up (va_up (va_up (va_up (va_up (fun _ => none) 0 (some p3)) 1 (some p4)) 2 (some p5)) 3 (some p6)) 4 (some p7)) 5 (some p8)) 6 (some p9)) 7 (some p10)) :: rQ q46 ca 4 6 (va_up (va_up (va_up (va_up (fun _ => none) 0 (some p11)) 1 (some p12)) 2 (some p13)) 3 (some p14)) :: oB p1 1 [.int 0, .int 0, .int 0] :: oB p2 5 [.int 0, .int 0, .int 0, .int 0, .int 0, .int 0, .int 0, .int 0, .int 0, .int 0, .int 0, .int 0] :: oB p3 1 [.int 0, .int 0, .int 0] :: oB p4 1 [.int 0, .int 0, .int 0] :: oB p5 1 [.int 0, .int 0, .int 0] :: oB p6 1 [.int 0, .int 0, .int 0] :: oB p7 1 [.int 0, .int 0, .int 0] :: oB p8 1 [.int 0, .int 0, .int 0] :: oB p9 1 [.int 0, .int 0, .int 0] :: oB p10 1 [.int 0, .int 0, .int 0] :: oB p11 5 [.int 0, .int 0, .int 0, .int 0, .int 0, .int 0, .int 0, .int 0, .int 0, .int 0, .int 0, .int 0] :: oB p12 5 [.int 0, .int 0, .int 0, .int 0, .int 0, .int 0, .int 0, .int 0, .int 0, .int 0, .int 0, .int 0] :: oB p13 5 [.int 0, .int 0, .int 0, .int 0, .int 0, .int 0, .int 0, .int 0, .int 0, .int 0, .int 0, .int 0] :: oB p14 5 [.int 0, .int 0, .int 0, .int 0, .int 0, .int 0, .int 0, .int 0, .int 0, .int 0, .int 0, .int 0] :: oB p15 5 [.int 0, .int 0, .int 0, .int 0, .int 0, .int 0, .int 0, .int 0, .int 0, .int 0, .int 0, .int 0] :: []) H locs := hH
  refine cstq (q0 := 2) (t0 := 4) (qk := 17) (ci := 5) (j := 4) C hH rfl rfl rfl (by decide) (by decide) (by decide) dX4_init_127 (fun H locs hH => ?_)
  have hH : cH s D A (oB z 4 [.long 0, .int 0, .int 0, .int 0, .int 0, .int (1), .ref q37, .ref q46, .ref p1, .ref p2] :: rQ q37 ca 3 8 (va_up (va_up (va_up (va_up (va_up (va_up (va_up (va_up (fun _ => none) 0 (some p3)) 1 (some p4)) 2 (some p5)) 3 (some p6)) 4 (some p7)) 5 (some p8)) 6 (some p9)) 7 (some p10)) :: rQ q46 ca 4 6 (va_up (va_up (va_up (va_up (va_up (fun _ => none) 0 (some p11)) 1 (some p12)) 2 (some p13)) 3 (some p14)) 4 (some p15)) :: oB p1 1 [.int 0, .int 0, .int 0] :: oB p2 5 [.int 0, .int 0, .int 0, .int 0, .int 0, .int 0, .int 0, .int 0, .int 0, .int 0, .int 0, .int 0] :: oB p3 1 [.int 0, .int 0, .int 0] :: oB p4 1 [.int 0, .int 0, .int 0] :: oB p5 1 [.int 0, .int 0, .int 0] :: oB p6 1 [.int 0, .int 0, .int 0] :: oB p7 1 [.int 0, .int 0, .int 0] :: oB p8 1 [.int 0, .int 0, .int 0] :: oB p9 1 [.int 0, .int 0, .int 0] :: oB p10 1 [.int 0, .int 0, .int 0] :: oB p11 5 [.int 0, .int 0, .int 0, .int 0, .int 0, .int 0, .int 0, .int 0, .int 0, .int 0, .int 0, .int 0] :: oB p12 5 [.int 0, .int 0, .int 0, .int 0, .int 0, .int 0, .int 0, .int 0, .int 0, .int 0, .int 0, .int 0] :: oB p13 5 [.int 0, .int 0, .int 0, .int 0, .int 0, .int 0, .int 0, .int 0, .int 0, .int 0, .int 0, .int 0] :: oB p14 5 [.int 0, .int 0, .int 0, .int 0, .int 0, .int 0, .int 0, .int 0, .int 0, .int 0, .int 0, .int 0] :: oB p15 5 [.int 0, .int 0, .int 0, .int 0, .int 0, .int 0, .int 0, .int 0, .int 0, .int 0, .int 0, .int 0] :: []) H locs := hH
  refine lv_iinc (v := nI 5) (lv' := [(1, .int (nI 5)), (0, .ref z)]) hx hb dX4_init_128 hl (k := 0) rfl (by decide) (by decide) rfl (fun ls hl => ?_)
  refine lv_goto (tgt := 106) hx hb dX4_init_131 (by decide) ?_
  refine lv_iload_n hx hb dX4_init_106 rfl (lv_at hl 0 rfl) ?_
  refine lv_aload_n hx hb dX4_init_107 rfl (lv_at hl 1 rfl) ?_
  refine cget (ci := 4) (f := 7) (v := .ref q46) C hH (by decide) (by decide) rfl (fk_in fldX4_ok fl_X4_39 (by decide)) dX4_init_108 ?_
  refine clen (q0 := 2) (t0 := 4) (v := (6)) C hH rfl rfl rfl dX4_init_111 ?_
  refine lv_icmp_ge (tgt := 134) hx hb dX4_init_112 (by decide) (fun h => absurd h (by decide)) (fun _ => ?_)
  refine lv_aload_n hx hb dX4_init_115 rfl (lv_at hl 1 rfl) ?_
  refine cget (ci := 4) (f := 7) (v := .ref q46) C hH (by decide) (by decide) rfl (fk_in fldX4_ok fl_X4_39 (by decide)) dX4_init_116 ?_
  refine lv_iload_n hx hb dX4_init_119 rfl (lv_at hl 0 rfl) ?_
  refine cnew (ci := 5) C hH (by decide) (nw_X4_37 _ (List.mem_of_getElem? (i := 0) rfl)) (nw_X4_37 _ (List.mem_of_getElem? (i := 1) rfl)) (nw_X4_37 _ (List.mem_of_getElem? (i := 2) rfl)) (Nat.le_of_ble_eq_true rfl) (Nat.le_of_ble_eq_true rfl) dX4_init_120 (fun p16 H hH => ?_)
  have hH : cH s D A ((oB z 4 [.long 0, .int 0, .int 0, .int 0, .int 0, .int (1), .ref q37, .ref q46, .ref p1, .ref p2] :: rQ q37 ca 3 8 (va_up (va_up (va_up (va_up (va_up (va_up (va_up (va_up (fun _ => none) 0 (some p3)) 1 (some p4)) 2 (some p5)) 3 (some p6)) 4 (some p7)) 5 (some p8)) 6 (some p9)) 7 (some p10)) :: rQ q46 ca 4 6 (va_up (va_up (va_up (va_up (va_up (fun _ => none) 0 (some p11)) 1 (some p12)) 2 (some p13)) 3 (some p14)) 4 (some p15)) :: oB p1 1 [.int 0, .int 0, .int 0] :: oB p2 5 [.int 0, .int 0, .int 0, .int 0, .int 0, .int 0, .int 0, .int 0, .int 0, .int 0, .int 0, .int 0] :: oB p3 1 [.int 0, .int 0, .int 0] :: oB p4 1 [.int 0, .int 0, .int 0] :: oB p5 1 [.int 0, .int 0, .int 0] :: oB p6 1 [.int 0, .int 0, .int 0] :: oB p7 1 [.int 0, .int 0, .int 0] :: oB p8 1 [.int 0, .int 0, .int 0] :: oB p9 1 [.int 0, .int 0, .int 0] :: oB p10 1 [.int 0, .int 0, .int 0] :: oB p11 5 [.int 0, .int 0, .int 0, .int 0, .int 0, .int 0, .int 0, .int 0, .int 0, .int 0, .int 0, .int 0] :: oB p12 5 [.int 0, .int 0, .int 0, .int 0, .int 0, .int 0, .int 0, .int 0, .int 0, .int 0, .int 0, .int 0] :: oB p13 5 [.int 0, .int 0, .int 0, .int 0, .int 0, .int 0, .int 0, .int 0, .int 0, .int 0, .int 0, .int 0] :: oB p14 5 [.int 0, .int 0, .int 0, .int 0, .int 0, .int 0, .int 0, .int 0, .int 0, .int 0, .int 0, .int 0] :: oB p15 5 [.int 0, .int 0, .int 0, .int 0, .int 0, .int 0, .int 0, .int 0, .int 0, .int 0, .int 0, .int 0] :: []) ++ [oB p16 5 (xdf 5)]) H _ := hH
  refine lv_dup hx hb dX4_init_123 rfl ?_
  refine cinitN (host := RX6) (n := 0) (As := []) mX5_init C hH hF.1.2.2 ci_X4_48 rfl ⟨by decide, by decide, by decide +kernel⟩ rfl ⟨Nat.le_of_ble_eq_true rfl, Nat.le_of_ble_eq_true rfl⟩ ⟨Nat.le_of_ble_eq_true rfl, Nat.le_of_ble_eq_true rfl⟩ hl.1 (Nat.le_of_ble_eq_true rfl) dX4_init_124 (fun H locs wp16 hpp16 hH => ?_)
  have hpp : wp16 = [oB p16 5 [.int 0, .int 0, .int 0, .int 0, .int 0, .int 0, .int 0, .int 0, .int 0, .int 0, .int 0, .int 0]] := hpp16
  subst hpp
  have hH : cH s D A (oB z 4 [.long 0, .int 0, .int 0, .int 0, .int 0, .int (1), .ref q37, .ref q46, .ref p1, .ref p2] :: rQ q37 ca 3 8 (va_up (va_up (va_up (va_up (va_up (va_up (va_up (va_up (fun _ => none) 0 (some p3)) 1 (some p4)) 2 (some p5)) 3 (some p6)) 4 (some p7)) 5 (some p8)) 6 (some p9)) 7 (some p10)) :: rQ q46 ca 4 6 (va_up (va_up (va_up (va_up (va_up (fun _ => none) 0 (some p11)) 1 (some p12)) 2 (some p13)) 3 (some p14)) 4 (some p15)) :: oB p1 1 [.int 0, .int 0, .int 0] :: oB p2 5 [.int 0, .int 0, .int 0, .int 0, .int 0, .int 0, .int 0, .int 0, .int 0, .int 0, .int 0, .int 0] :: oB p3 1 [.int 0, .int 0, .int 0] :: oB p4 1 [.int 0, .int 0, .int 0] :: oB p5 1 [.int 0, .int 0, .int 0] :: oB p6 1 [.int 0, .int 0, .int 0] :: oB p7 1 [.int 0, .int 0, .int 0] :: oB p8 1 [.int 0, .int 0, .int 0] :: oB p9 1 [.int 0, .int 0, .int 0] :: oB p10 1 [.int 0, .int 0, .int 0] :: oB p11 5 [.int 0, .int 0, .int 0, .int 0, .int 0, .int 0, .int 0, .int 0, .int 0, .int 0, .int 0, .int 0] :: oB p12 5 [.int 0, .int 0, .int 0, .int 0, .int 0, .int 0, .int 0, .int 0, .int 0, .int 0, .int 0, .int 0] :: oB p13 5 [.int 0, .int 0, .int 0, .int 0, .int 0, .int 0, .int 0, .int 0, .int 0, .int 0, .int 0, .int 0] :: oB p14 5 [.int 0, .int 0, .int 0, .int 0, .int 0, .int 0, .int 0, .int 0, .int 0, .int 0, .int 0, .int 0] :: oB p15 5 [.int 0, .int 0, .int 0, .int 0, .int 0, .int 0, .int 0, .int 0, .int 0, .int 0, .int 0, .int 0] :: oB p16 5 [.int 0, .int 0, .int 0, .int 0, .int 0, .int 0, .int 0, .int 0, .int 0, .int 0, .int 0, .int 0] :: []) H locs := hH
  refine cstq (q0 := 2) (t0 := 4) (qk := 18) (ci := 5) (j := 5) C hH rfl rfl rfl (by decide) (by decide) (by decide) dX4_init_127 (fun H locs hH => ?_)
  have hH : cH s D A (oB z 4 [.long 0, .int 0, .int 0, .int 0, .int 0, .int (1), .ref q37, .ref q46, .ref p1, .ref p2] :: rQ q37 ca 3 8 (va_up (va_up (va_up (va_up (va_up (va_up (va_up (va_up (fun _ => none) 0 (some p3)) 1 (some p4)) 2 (some p5)) 3 (some p6)) 4 (some p7)) 5 (some p8)) 6 (some p9)) 7 (some p10)) :: rQ q46 ca 4 6 (va_up (va_up (va_up (va_up (va_up (va_up (fun _ => none) 0 (some p11)) 1 (some p12)) 2 (some p13)) 3 (some p14)) 4 (some p15)) 5 (some p16)) :: oB p1 1 [.int 0, .int 0, .int 0] :: oB p2 5 [.int 0, .int 0, .int 0, .int 0, .int 0, .int 0, .int 0, .int 0, .int 0, .int 0, .int 0, .int 0] :: oB p3 1 [.int 0, .int 0, .int 0] :: oB p4 1 [.int 0, .int 0, .int 0] :: oB p5 1 [.int 0, .int 0, .int 0] :: oB p6 1 [.int 0, .int 0, .int 0] :: oB p7 1 [.int 0, .int 0, .int 0] :: oB p8 1 [.int 0, .int 0, .int 0] :: oB p9 1 [.int 0, .int 0, .int 0] :: oB p10 1 [.int 0, .int 0, .int 0] :: oB p11 5 [.int 0, .int 0, .int 0, .int 0, .int 0, .int 0, .int 0, .int 0, .int 0, .int 0, .int 0, .int 0] :: oB p12 5 [.int 0, .int 0, .int 0, .int 0, .int 0, .int 0, .int 0, .int 0, .int 0, .int 0, .int 0, .int 0] :: oB p13 5 [.int 0, .int 0, .int 0, .int 0, .int 0, .int 0, .int 0, .int 0, .int 0, .int 0, .int 0, .int 0] :: oB p14 5 [.int 0, .int 0, .int 0, .int 0, .int 0, .int 0, .int 0, .int 0, .int 0, .int 0, .int 0, .int 0] :: oB p15 5 [.int 0, .int 0, .int 0, .int 0, .int 0, .int 0, .int 0, .int 0, .int 0, .int 0, .int 0, .int 0] :: oB p16 5 [.int 0, .int 0, .int 0, .int 0, .int 0, .int 0, .int 0, .int 0, .int 0, .int 0, .int 0, .int 0] :: []) H locs := hH
  refine lv_iinc (v := nI 6) (lv' := [(1, .int (nI 6)), (0, .ref z)]) hx hb dX4_init_128 hl (k := 0) rfl (by decide) (by decide) rfl (fun ls hl => ?_)
  refine lv_goto (tgt := 106) hx hb dX4_init_131 (by decide) ?_
  refine lv_iload_n hx hb dX4_init_106 rfl (lv_at hl 0 rfl) ?_
  refine lv_aload_n hx hb dX4_init_107 rfl (lv_at hl 1 rfl) ?_
  refine cget (ci := 4) (f := 7) (v := .ref q46) C hH (by decide) (by decide) rfl (fk_in fldX4_ok fl_X4_39 (by decide)) dX4_init_108 ?_
  refine clen (q0 := 2) (t0 := 4) (v := (6)) C hH rfl rfl rfl dX4_init_111 ?_
  refine lv_icmp_ge (tgt := 134) hx hb dX4_init_112 (by decide) (fun _ => ?_) (fun h => absurd (by decide) h)
  exact cret C hr hlocks hH (⟨fun k => [z, q37, q46, p1, p2, 0, 0, 0, 0, 0, p3, p4, p5, p6, p7, p8, p9, p10, 0, 0, p11, p12, p13, p14, p15, p16].getD k 0, _, _, rfl, (fun i hi => by rcases (show i = 0 ∨ i = 1 ∨ i = 2 ∨ i = 3 ∨ i = 4 ∨ i = 5 ∨ i = 6 ∨ i = 7 by omega) with rfl | rfl | rfl | rfl | rfl | rfl | rfl | rfl <;> rfl), (fun i hi => by rcases (show i = 0 ∨ i = 1 ∨ i = 2 ∨ i = 3 ∨ i = 4 ∨ i = 5 by omega) with rfl | rfl | rfl | rfl | rfl | rfl <;> rfl), rfl⟩) (Nat.le_of_ble_eq_true rfl) (Nat.le_of_ble_eq_true rfl) dX4_init_134

set_option maxRecDepth 200000 in
theorem oi_X2 : ∀ x ∈ [Jvm.Cond.methodLink RX2 3 objectInit], x ∈ xBig := xBig_of (by decide +kernel)
set_option maxRecDepth 200000 in
theorem nw_X2_29 : ∀ x ∈ [Jvm.Cond.classLink RX2 29 RX4, Jvm.Cond.instantiable RX4 10, Jvm.Cond.initialized RX4], x ∈ xBig := xBig_of (by decide +kernel)
set_option maxRecDepth 200000 in
theorem ci_X2_31 : ∀ x ∈ [Jvm.Cond.methodLink RX2 31 yX4_init, Jvm.Cond.instanceMethod yX4_init, .initialized yX4_init.cls, .code yX4_init cX4_init 2 none], x ∈ xBig := xBig_of (by decide +kernel)
set_option maxHeartbeats 4000000 in
set_option maxRecDepth 100000 in
theorem mX2_init : iMet yX2_init cX2_init 1 2 5 20 295 [] (fun ca z w => ∃ (t b : Nat) (wt : va_W), PT ca t wt ∧ w = oB z 2 [.int 0, .int 0, .int 0, .int 0, .ref b, .ref t] :: rI b ca 160 (fun _ => 0) :: wt) := by
  refine iMet_of (lv := fun z => [(0, .ref z)]) (by decide +kernel) (fun _ => rfl) (Nat.le_of_ble_eq_true rfl) (fun _ => rfl) ?_
  intro p l e s m args below meth c D ca z A ls C hr hlocks hin hH hl
  have C : cCx p _ s m args meth c cX2_init RX2 1 D ca A := C
  obtain ⟨⟨hx, hb, hml, hown, hts⟩, hK, hA, hF⟩ := id C
  have hl : lv_has ls 1 [(0, .ref z)] := hl
  have hH : cH s D A (oB z 2 [.int 0, .int 0, .int 0, .int 0, .null, .null] :: []) s.heap [] := hH
  refine lv_aload_n hx hb dX2_init_0 rfl (lv_at hl 0 rfl) ?_
  refine cobj C (oi_X2 _ List.mem_cons_self) hl.1 (Nat.le_of_ble_eq_true rfl) (Nat.le_of_ble_eq_true rfl) (Nat.le_of_ble_eq_true rfl) dX2_init_1 ?_
  refine lv_aload_n hx hb dX2_init_4 rfl (lv_at hl 0 rfl) ?_
  refine lv_iconst (v := (0)) hx hb dX2_init_5 (by decide) ?_
  refine cput (ci := 2) (f := 0) C hin hH (by decide) (by decide) rfl rfl rfl (Nat.le_of_ble_eq_true rfl) (fk_in fldX2_ok fl_X2_9 (by decide)) rfl dX2_init_6 (fun H locs hH => ?_)
  have hH : cH s D A (oB z 2 [.int 0, .int 0, .int 0, .int 0, .null, .null] :: []) H locs := hH
  refine lv_aload_n hx hb dX2_init_9 rfl (lv_at hl 0 rfl) ?_
  refine lv_iconst (v := (0)) hx hb dX2_init_10 (by decide) ?_
  refine cput (ci := 2) (f := 1) C hin hH (by decide) (by decide) rfl rfl rfl (Nat.le_of_ble_eq_true rfl) (fk_in fldX2_ok fl_X2_15 (by decide)) rfl dX2_init_11 (fun H locs hH => ?_)
  have hH : cH s D A (oB z 2 [.int 0, .int 0, .int 0, .int 0, .null, .null] :: []) H locs := hH
  refine lv_aload_n hx hb dX2_init_14 rfl (lv_at hl 0 rfl) ?_
  refine lv_iconst (v := (0)) hx hb dX2_init_15 (by decide) ?_
  refine cput (ci := 2) (f := 2) C hin hH (by decide) (by decide) rfl rfl rfl (Nat.le_of_ble_eq_true rfl) (fk_in fldX2_ok fl_X2_19 (by decide)) rfl dX2_init_16 (fun H locs hH => ?_)
  have hH : cH s D A (oB z 2 [.int 0, .int 0, .int 0, .int 0, .null, .null] :: []) H locs := hH
  refine lv_aload_n hx hb dX2_init_19 rfl (lv_at hl 0 rfl) ?_
  refine lv_iconst (v := (0)) hx hb dX2_init_20 (by decide) ?_
  refine cput (ci := 2) (f := 3) C hin hH (by decide) (by decide) rfl rfl rfl (Nat.le_of_ble_eq_true rfl) (fk_in fldX2_ok fl_X2_22 (by decide)) rfl dX2_init_21 (fun H locs hH => ?_)
  have hH : cH s D A (oB z 2 [.int 0, .int 0, .int 0, .int 0, .null, .null] :: []) H locs := hH
  refine lv_aload_n hx hb dX2_init_24 rfl (lv_at hl 0 rfl) ?_
  refine lv_sipush (v := (160)) hx hb dX2_init_25 (by decide) ?_
  refine cnewI (N := 160) C hH arI_in (by decide) (by decide) (by decide) (Nat.le_of_ble_eq_true rfl) (Nat.le_of_ble_eq_true rfl) dX2_init_28 (fun q28 H hH => ?_)
  have hH : cH s D A (oB z 2 [.int 0, .int 0, .int 0, .int 0, .null, .null] :: rI q28 ca 160 (fun _ => 0) :: []) H _ := hH
  refine cput (ci := 2) (f := 4) C hin hH (by decide) (by decide) rfl rfl rfl (Nat.le_of_ble_eq_true rfl) (fk_in fldX2_ok fl_X2_25 (by decide)) rfl dX2_init_30 (fun H locs hH => ?_)
  have hH : cH s D A (oB z 2 [.int 0, .int 0, .int 0, .int 0, .ref q28, .null] :: rI q28 ca 160 (fun _ => 0) :: []) H locs := hH
  refine lv_aload_n hx hb dX2_init_33 rfl (lv_at hl 0 rfl) ?_
  refine cnew (ci := 4) C hH (by decide) (nw_X2_29 _ (List.mem_of_getElem? (i := 0) rfl)) (nw_X2_29 _ (List.mem_of_getElem? (i := 1) rfl)) (nw_X2_29 _ (List.mem_of_getElem? (i := 2) rfl)) (Nat.le_of_ble_eq_true rfl) (Nat.le_of_ble_eq_true rfl) dX2_init_34 (fun p1 H hH => ?_)
  have hH : cH s D A ((oB z 2 [.int 0, .int 0, .int 0, .int 0, .ref q28, .null] :: rI q28 ca 160 (fun _ => 0) :: []) ++ [oB p1 4 (xdf 4)]) H _ := hH
  refine lv_dup hx hb dX2_init_37 rfl ?_
  refine cinit (n := 0) (As := []) mX4_init C hH ci_X2_31 rfl ⟨by decide, by decide, by decide +kernel⟩ rfl ⟨Nat.le_of_ble_eq_true rfl, Nat.le_of_ble_eq_true rfl⟩ ⟨Nat.le_of_ble_eq_true rfl, Nat.le_of_ble_eq_true rfl⟩ hl.1 (Nat.le_of_ble_eq_true rfl) dX2_init_38 (fun H locs wp1 hpp1 hH => ?_)
  have hH : cH s D A (oB z 2 [.int 0, .int 0, .int 0, .int 0, .ref q28, .null] :: rI q28 ca 160 (fun _ => 0) :: wp1) H locs := hH
  refine cput (ci := 2) (f := 5) C hin hH (by decide) (by decide) rfl rfl rfl (Nat.le_of_ble_eq_true rfl) (fk_in fldX2_ok fl_X2_32 (by decide)) rfl dX2_init_41 (fun H locs hH => ?_)
  have hH : cH s D A (oB z 2 [.int 0, .int 0, .int 0, .int 0, .ref q28, .ref p1] :: rI q28 ca 160 (fun _ => 0) :: wp1) H locs := hH
  exact cret C hr hlocks hH (⟨_, _, _, hpp1, rfl⟩) (Nat.le_of_ble_eq_true rfl) (Nat.le_of_ble_eq_true rfl) dX2_init_44
