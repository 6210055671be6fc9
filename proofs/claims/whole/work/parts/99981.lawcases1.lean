theorem lg_same {x y : Int64} (h : x = y) : lg_cmp x y = 0 := by
  subst h
  simp [lg_cmp, Int64.lt_irrefl]
/-! the law, case by case -/
section LAWCASES
variable {p : Program} {l : Launch} {e : Env} {s : State} {m : MethodId} {below : List Frame} {meth : Method} {c : Code} {cells slots : Nat} {Q : State → Prop} {b L i : Nat} {xs : Nat → Int32} {D : va_G} {ca : Nat → ClassId} {aX aM : Nat → Nat} {A0 : Nat → Prop} {H : Heap} {locs : List Loc} {ls : Array Slot}
set_option maxHeartbeats 2000000 in
theorem law_0 (C : LSt p s m meth c b L xs D ca aX aM A0 cells slots) {G N : Nat} {σ τ : xS} (h : RRn G N σ τ) (hH : LHp s D ca aX aM A0 σ τ H locs) (hl : LLs b i aX aM ls) (hi : i + 6 ≤ L) (next : ∀ (G' N' : Nat) (σ' τ' : xS) (H' : Heap) (locs' : List Loc), RRn G' N' σ' τ' → LHp s D ca aX aM A0 σ' τ' H' locs' → W p l e room_1 s m #[Value.ref b] below meth c H' locs' cells slots Q (F0 m 1448 ls [])) : W p l e room_1 s m #[Value.ref b] below meth c H locs cells slots Q (F0 m 204 ls []) := by
  obtain ⟨hx, hb, -⟩ := C.1
  refine lv_aload_n hx hb dL_law_204 rfl (lv_at hl 2 rfl) ?_
  refine larg (k := 1) C hH hl hi (by omega) (by decide) dL_law_205 dL_law_206 dL_law_207 dL_law_208 dL_law_209 ?_
  refine larg (k := 2) C hH hl hi (by omega) (by decide) dL_law_210 dL_law_211 dL_law_212 dL_law_213 dL_law_214 ?_
  refine larg (k := 3) C hH hl hi (by omega) (by decide) dL_law_215 dL_law_216 dL_law_217 dL_law_218 dL_law_219 ?_
  refine lcX (n := 3) (as' := [.int (xs (i + 1)), .int (xs (i + 2)), .int (xs (i + 3))]) (rest := []) C hH hl mX6_row (pX6_row_h h (xs (i + 1)) (xs (i + 2)) (xs (i + 3))) (fX6_row_e (s := (xs (i + 1))) (o := (xs (i + 2))) (n := (xs (i + 3)))) rfl rfl rfl (by decide) (by decide) w_L_13 ⟨by decide, by decide, by decide +kernel⟩ rfl (Nat.le_of_ble_eq_true rfl) dL_law_220 (fun H1 locs1 hH1 => ?_)
  refine lv_aload_n hx hb dL_law_223 rfl (lv_at hl 3 rfl) ?_
  refine larg (k := 1) C hH1 hl hi (by omega) (by decide) dL_law_224 dL_law_225 dL_law_226 dL_law_227 dL_law_228 ?_
  refine larg (k := 2) C hH1 hl hi (by omega) (by decide) dL_law_229 dL_law_230 dL_law_231 dL_law_232 dL_law_233 ?_
  refine larg (k := 3) C hH1 hl hi (by omega) (by decide) dL_law_234 dL_law_235 dL_law_236 dL_law_237 dL_law_238 ?_
  refine lcM (n := 3) (as' := [.int (xs (i + 1)), .int (xs (i + 2)), .int (xs (i + 3))]) (rest := [_]) C hH1 hl mX7_row (pX7_row_h h (xs (i + 1)) (xs (i + 2)) (xs (i + 3))) (fX7_row_e (s := (xs (i + 1))) (o := (xs (i + 2))) (n := (xs (i + 3)))) rfl rfl rfl (by decide) (by decide) w_L_17 ⟨by decide, by decide, by decide +kernel⟩ rfl (Nat.le_of_ble_eq_true rfl) dL_law_239 (fun H2 locs2 hH2 => ?_)
  obtain ⟨hq, G', N', h'⟩ := ok_row h (xs (i + 1)) (xs (i + 2)) (xs (i + 3))
  refine lv_icmp_eq (tgt := 1448) hx hb dL_law_242 (by decide) (fun _ => ?_) (fun hne => absurd hq hne)
  exact next G' N' _ _ _ _ h' hH2
set_option maxHeartbeats 2000000 in
theorem law_1 (C : LSt p s m meth c b L xs D ca aX aM A0 cells slots) {G N : Nat} {σ τ : xS} (h : RRn G N σ τ) (hH : LHp s D ca aX aM A0 σ τ H locs) (hl : LLs b i aX aM ls) (hi : i + 6 ≤ L) (next : ∀ (G' N' : Nat) (σ' τ' : xS) (H' : Heap) (locs' : List Loc), RRn G' N' σ' τ' → LHp s D ca aX aM A0 σ' τ' H' locs' → W p l e room_1 s m #[Value.ref b] below meth c H' locs' cells slots Q (F0 m 1448 ls [])) : W p l e room_1 s m #[Value.ref b] below meth c H locs cells slots Q (F0 m 247 ls []) := by
  obtain ⟨hx, hb, -⟩ := C.1
  refine lv_aload_n hx hb dL_law_247 rfl (lv_at hl 2 rfl) ?_
  refine larg (k := 1) C hH hl hi (by omega) (by decide) dL_law_248 dL_law_249 dL_law_250 dL_law_251 dL_law_252 ?_
  refine larg (k := 2) C hH hl hi (by omega) (by decide) dL_law_253 dL_law_254 dL_law_255 dL_law_256 dL_law_257 ?_
  refine larg (k := 3) C hH hl hi (by omega) (by decide) dL_law_258 dL_law_259 dL_law_260 dL_law_261 dL_law_262 ?_
  refine llong C hH hl hi dL_law_263 dL_law_264 dL_law_266 dL_law_267 dL_law_268 dL_law_269 dL_law_270 dL_law_271 dL_law_272 dL_law_273 dL_law_276 dL_law_277 ?_
  refine lcX (n := 3) (as' := [.int (xs (i + 1)), .int (xs (i + 2)), .long (xlshl (xs (i + 3)).toInt64 32 ||| (xs (i + 4)).toInt64 &&& 4294967295)]) (rest := []) C hH hl mX6_set (pX6_set_h h (xs (i + 1)) (xs (i + 2)) (xlshl (xs (i + 3)).toInt64 32 ||| (xs (i + 4)).toInt64 &&& 4294967295)) (fX6_set_e (s := (xs (i + 1))) (i := (xs (i + 2))) (v := (xlshl (xs (i + 3)).toInt64 32 ||| (xs (i + 4)).toInt64 &&& 4294967295))) rfl rfl rfl (by decide) (by decide) w_L_20 ⟨by decide, by decide, by decide +kernel⟩ rfl (Nat.le_of_ble_eq_true rfl) dL_law_278 (fun H1 locs1 hH1 => ?_)
  refine lv_aload_n hx hb dL_law_281 rfl (lv_at hl 3 rfl) ?_
  refine larg (k := 1) C hH1 hl hi (by omega) (by decide) dL_law_282 dL_law_283 dL_law_284 dL_law_285 dL_law_286 ?_
  refine larg (k := 2) C hH1 hl hi (by omega) (by decide) dL_law_287 dL_law_288 dL_law_289 dL_law_290 dL_law_291 ?_
  refine larg (k := 3) C hH1 hl hi (by omega) (by decide) dL_law_292 dL_law_293 dL_law_294 dL_law_295 dL_law_296 ?_
  refine llong C hH1 hl hi dL_law_297 dL_law_298 dL_law_300 dL_law_301 dL_law_302 dL_law_303 dL_law_304 dL_law_305 dL_law_306 dL_law_307 dL_law_310 dL_law_311 ?_
  refine lcM (n := 3) (as' := [.int (xs (i + 1)), .int (xs (i + 2)), .long (xlshl (xs (i + 3)).toInt64 32 ||| (xs (i + 4)).toInt64 &&& 4294967295)]) (rest := [_]) C hH1 hl mX7_set (pX7_set_h h (xs (i + 1)) (xs (i + 2)) (xlshl (xs (i + 3)).toInt64 32 ||| (xs (i + 4)).toInt64 &&& 4294967295)) (fX7_set_e (s := (xs (i + 1))) (i := (xs (i + 2))) (v := (xlshl (xs (i + 3)).toInt64 32 ||| (xs (i + 4)).toInt64 &&& 4294967295))) rfl rfl rfl (by decide) (by decide) w_L_24 ⟨by decide, by decide, by decide +kernel⟩ rfl (Nat.le_of_ble_eq_true rfl) dL_law_312 (fun H2 locs2 hH2 => ?_)
  obtain ⟨hq, G', N', h'⟩ := ok_set h (xs (i + 1)) (xs (i + 2)) (xlshl (xs (i + 3)).toInt64 32 ||| (xs (i + 4)).toInt64 &&& 4294967295)
  refine lv_icmp_eq (tgt := 1448) hx hb dL_law_315 (by decide) (fun _ => ?_) (fun hne => absurd hq hne)
  exact next G' N' _ _ _ _ h' hH2
set_option maxHeartbeats 2000000 in
theorem law_2 (C : LSt p s m meth c b L xs D ca aX aM A0 cells slots) {G N : Nat} {σ τ : xS} (h : RRn G N σ τ) (hH : LHp s D ca aX aM A0 σ τ H locs) (hl : LLs b i aX aM ls) (hi : i + 6 ≤ L) (next : ∀ (G' N' : Nat) (σ' τ' : xS) (H' : Heap) (locs' : List Loc), RRn G' N' σ' τ' → LHp s D ca aX aM A0 σ' τ' H' locs' → W p l e room_1 s m #[Value.ref b] below meth c H' locs' cells slots Q (F0 m 1448 ls [])) : W p l e room_1 s m #[Value.ref b] below meth c H locs cells slots Q (F0 m 320 ls []) := by
  obtain ⟨hx, hb, -⟩ := C.1
  refine lv_aload_n hx hb dL_law_320 rfl (lv_at hl 2 rfl) ?_
  refine larg (k := 1) C hH hl hi (by omega) (by decide) dL_law_321 dL_law_322 dL_law_323 dL_law_324 dL_law_325 ?_
  refine larg (k := 2) C hH hl hi (by omega) (by decide) dL_law_326 dL_law_327 dL_law_328 dL_law_329 dL_law_330 ?_
  refine larg (k := 3) C hH hl hi (by omega) (by decide) dL_law_331 dL_law_332 dL_law_333 dL_law_334 dL_law_335 ?_
  refine larg (k := 4) C hH hl hi (by omega) (by decide) dL_law_336 dL_law_337 dL_law_338 dL_law_339 dL_law_340 ?_
  refine larg (k := 5) C hH hl hi (by omega) (by decide) dL_law_341 dL_law_342 dL_law_343 dL_law_344 dL_law_345 ?_
  refine lcX (n := 5) (as' := [.int (xs (i + 1)), .int (xs (i + 2)), .int (xs (i + 3)), .int (xs (i + 4)), .int (xs (i + 5))]) (rest := []) C hH hl mX6_copy (pX6_copy_h h (xs (i + 1)) (xs (i + 2)) (xs (i + 3)) (xs (i + 4)) (xs (i + 5))) (fX6_copy_e (p := (xs (i + 1))) (q := (xs (i + 2))) (i := (xs (i + 3))) (j := (xs (i + 4))) (n := (xs (i + 5)))) rfl rfl rfl (by decide) (by decide) w_L_25 ⟨by decide, by decide, by decide +kernel⟩ rfl (Nat.le_of_ble_eq_true rfl) dL_law_346 (fun H1 locs1 hH1 => ?_)
  refine lv_aload_n hx hb dL_law_349 rfl (lv_at hl 3 rfl) ?_
  refine larg (k := 1) C hH1 hl hi (by omega) (by decide) dL_law_350 dL_law_351 dL_law_352 dL_law_353 dL_law_354 ?_
  refine larg (k := 2) C hH1 hl hi (by omega) (by decide) dL_law_355 dL_law_356 dL_law_357 dL_law_358 dL_law_359 ?_
  refine larg (k := 3) C hH1 hl hi (by omega) (by decide) dL_law_360 dL_law_361 dL_law_362 dL_law_363 dL_law_364 ?_
  refine larg (k := 4) C hH1 hl hi (by omega) (by decide) dL_law_365 dL_law_366 dL_law_367 dL_law_368 dL_law_369 ?_
  refine larg (k := 5) C hH1 hl hi (by omega) (by decide) dL_law_370 dL_law_371 dL_law_372 dL_law_373 dL_law_374 ?_
  refine lcM (n := 5) (as' := [.int (xs (i + 1)), .int (xs (i + 2)), .int (xs (i + 3)), .int (xs (i + 4)), .int (xs (i + 5))]) (rest := [_]) C hH1 hl mX7_copy (pX7_copy_h h (xs (i + 1)) (xs (i + 2)) (xs (i + 3)) (xs (i + 4)) (xs (i + 5))) (fX7_copy_e (p := (xs (i + 1))) (q := (xs (i + 2))) (i := (xs (i + 3))) (j := (xs (i + 4))) (n := (xs (i + 5)))) rfl rfl rfl (by decide) (by decide) w_L_29 ⟨by decide, by decide, by decide +kernel⟩ rfl (Nat.le_of_ble_eq_true rfl) dL_law_375 (fun H2 locs2 hH2 => ?_)
  obtain ⟨hq, G', N', h'⟩ := ok_copy h (xs (i + 1)) (xs (i + 2)) (xs (i + 3)) (xs (i + 4)) (xs (i + 5))
  refine lv_icmp_eq (tgt := 1448) hx hb dL_law_378 (by decide) (fun _ => ?_) (fun hne => absurd hq hne)
  exact next G' N' _ _ _ _ h' hH2
set_option maxHeartbeats 2000000 in
theorem law_3 (C : LSt p s m meth c b L xs D ca aX aM A0 cells slots) {G N : Nat} {σ τ : xS} (h : RRn G N σ τ) (hH : LHp s D ca aX aM A0 σ τ H locs) (hl : LLs b i aX aM ls) (hi : i + 6 ≤ L) (next : ∀ (G' N' : Nat) (σ' τ' : xS) (H' : Heap) (locs' : List Loc), RRn G' N' σ' τ' → LHp s D ca aX aM A0 σ' τ' H' locs' → W p l e room_1 s m #[Value.ref b] below meth c H' locs' cells slots Q (F0 m 1448 ls [])) : W p l e room_1 s m #[Value.ref b] below meth c H locs cells slots Q (F0 m 383 ls []) := by
  obtain ⟨hx, hb, -⟩ := C.1
  refine lv_aload_n hx hb dL_law_383 rfl (lv_at hl 2 rfl) ?_
  refine larg (k := 1) C hH hl hi (by omega) (by decide) dL_law_384 dL_law_385 dL_law_386 dL_law_387 dL_law_388 ?_
  refine larg (k := 2) C hH hl hi (by omega) (by decide) dL_law_389 dL_law_390 dL_law_391 dL_law_392 dL_law_393 ?_
  refine lcX (n := 2) (as' := [.int (xs (i + 1)), .int (xs (i + 2))]) (rest := []) C hH hl mX6_element (pX6_element_h h (xs (i + 1)) (xs (i + 2))) (fX6_element_e (s := (xs (i + 1))) (i := (xs (i + 2)))) rfl rfl rfl (by decide) (by decide) w_L_30 ⟨by decide, by decide, by decide +kernel⟩ rfl (Nat.le_of_ble_eq_true rfl) dL_law_394 (fun H1 locs1 hH1 => ?_)
  refine lv_aload_n hx hb dL_law_397 rfl (lv_at hl 3 rfl) ?_
  refine larg (k := 1) C hH1 hl hi (by omega) (by decide) dL_law_398 dL_law_399 dL_law_400 dL_law_401 dL_law_402 ?_
  refine larg (k := 2) C hH1 hl hi (by omega) (by decide) dL_law_403 dL_law_404 dL_law_405 dL_law_406 dL_law_407 ?_
  refine lcM (n := 2) (as' := [.int (xs (i + 1)), .int (xs (i + 2))]) (rest := [_]) C hH1 hl mX7_element (pX7_element_h h (xs (i + 1)) (xs (i + 2))) (fX7_element_e (s := (xs (i + 1))) (i := (xs (i + 2)))) rfl rfl rfl (by decide) (by decide) w_L_34 ⟨by decide, by decide, by decide +kernel⟩ rfl (Nat.le_of_ble_eq_true rfl) dL_law_408 (fun H2 locs2 hH2 => ?_)
  have hq := ok_element h (xs (i + 1)) (xs (i + 2))
  refine W.lcmp hx hb dL_law_411 ?_
  refine lv_if_eq (tgt := 1448) hx hb dL_law_412 (by decide) (fun _ => ?_) (fun hne => absurd (lg_same hq) hne)
  exact next G N _ _ _ _ h hH2
set_option maxHeartbeats 2000000 in
theorem law_4 (C : LSt p s m meth c b L xs D ca aX aM A0 cells slots) {G N : Nat} {σ τ : xS} (h : RRn G N σ τ) (hH : LHp s D ca aX aM A0 σ τ H locs) (hl : LLs b i aX aM ls) (hi : i + 6 ≤ L) (next : ∀ (G' N' : Nat) (σ' τ' : xS) (H' : Heap) (locs' : List Loc), RRn G' N' σ' τ' → LHp s D ca aX aM A0 σ' τ' H' locs' → W p l e room_1 s m #[Value.ref b] below meth c H' locs' cells slots Q (F0 m 1448 ls [])) : W p l e room_1 s m #[Value.ref b] below meth c H locs cells slots Q (F0 m 417 ls []) := by
  obtain ⟨hx, hb, -⟩ := C.1
  refine lv_aload_n hx hb dL_law_417 rfl (lv_at hl 2 rfl) ?_
  refine larg (k := 1) C hH hl hi (by omega) (by decide) dL_law_418 dL_law_419 dL_law_420 dL_law_421 dL_law_422 ?_
  refine larg (k := 2) C hH hl hi (by omega) (by decide) dL_law_423 dL_law_424 dL_law_425 dL_law_426 dL_law_427 ?_
  refine lcX (n := 2) (as' := [.int (xs (i + 1)), .int (xs (i + 2))]) (rest := []) C hH hl mX6_show (pX6_show_h h (xs (i + 1)) (xs (i + 2))) (fX6_show_e (s := (xs (i + 1))) (x := (xs (i + 2)))) rfl rfl rfl (by decide) (by decide) w_L_35 ⟨by decide, by decide, by decide +kernel⟩ rfl (Nat.le_of_ble_eq_true rfl) dL_law_428 (fun H1 locs1 hH1 => ?_)
  refine lv_aload_n hx hb dL_law_431 rfl (lv_at hl 3 rfl) ?_
  refine larg (k := 1) C hH1 hl hi (by omega) (by decide) dL_law_432 dL_law_433 dL_law_434 dL_law_435 dL_law_436 ?_
  refine larg (k := 2) C hH1 hl hi (by omega) (by decide) dL_law_437 dL_law_438 dL_law_439 dL_law_440 dL_law_441 ?_
  refine lcM (n := 2) (as' := [.int (xs (i + 1)), .int (xs (i + 2))]) (rest := [_]) C hH1 hl mX7_show (pX7_show_h h (xs (i + 1)) (xs (i + 2))) (fX7_show_e (s := (xs (i + 1))) (x := (xs (i + 2)))) rfl rfl rfl (by decide) (by decide) w_L_39 ⟨by decide, by decide, by decide +kernel⟩ rfl (Nat.le_of_ble_eq_true rfl) dL_law_442 (fun H2 locs2 hH2 => ?_)
  obtain ⟨hq, G', N', h'⟩ := ok_show h (xs (i + 1)) (xs (i + 2))
  refine lv_icmp_eq (tgt := 1448) hx hb dL_law_445 (by decide) (fun _ => ?_) (fun hne => absurd hq hne)
  exact next G' N' _ _ _ _ h' hH2
set_option maxHeartbeats 2000000 in
theorem law_5 (C : LSt p s m meth c b L xs D ca aX aM A0 cells slots) {G N : Nat} {σ τ : xS} (h : RRn G N σ τ) (hH : LHp s D ca aX aM A0 σ τ H locs) (hl : LLs b i aX aM ls) (hi : i + 6 ≤ L) (next : ∀ (G' N' : Nat) (σ' τ' : xS) (H' : Heap) (locs' : List Loc), RRn G' N' σ' τ' → LHp s D ca aX aM A0 σ' τ' H' locs' → W p l e room_1 s m #[Value.ref b] below meth c H' locs' cells slots Q (F0 m 1448 ls [])) : W p l e room_1 s m #[Value.ref b] below meth c H locs cells slots Q (F0 m 450 ls []) := by
  obtain ⟨hx, hb, -⟩ := C.1
  refine lv_aload_n hx hb dL_law_450 rfl (lv_at hl 2 rfl) ?_
  refine larg (k := 1) C hH hl hi (by omega) (by decide) dL_law_451 dL_law_452 dL_law_453 dL_law_454 dL_law_455 ?_
  refine lcX (n := 1) (as' := [.int (xs (i + 1))]) (rest := []) C hH hl mX6_holds (pX6_holds_h h (xs (i + 1))) (fX6_holds_e (s := (xs (i + 1)))) rfl rfl rfl (by decide) (by decide) w_L_40 ⟨by decide, by decide, by decide +kernel⟩ rfl (Nat.le_of_ble_eq_true rfl) dL_law_456 (fun H1 locs1 hH1 => ?_)
  refine lv_aload_n hx hb dL_law_459 rfl (lv_at hl 3 rfl) ?_
  refine larg (k := 1) C hH1 hl hi (by omega) (by decide) dL_law_460 dL_law_461 dL_law_462 dL_law_463 dL_law_464 ?_
  refine lcM (n := 1) (as' := [.int (xs (i + 1))]) (rest := [_]) C hH1 hl mX7_holds (pX7_holds_h h (xs (i + 1))) (fX7_holds_e (s := (xs (i + 1)))) rfl rfl rfl (by decide) (by decide) w_L_44 ⟨by decide, by decide, by decide +kernel⟩ rfl (Nat.le_of_ble_eq_true rfl) dL_law_465 (fun H2 locs2 hH2 => ?_)
  have hq := ok_holds h (xs (i + 1))
  refine lv_icmp_eq (tgt := 1448) hx hb dL_law_468 (by decide) (fun _ => ?_) (fun hne => absurd hq hne)
  exact next G N _ _ _ _ h hH2
set_option maxHeartbeats 2000000 in
theorem law_6 (C : LSt p s m meth c b L xs D ca aX aM A0 cells slots) {G N : Nat} {σ τ : xS} (h : RRn G N σ τ) (hH : LHp s D ca aX aM A0 σ τ H locs) (hl : LLs b i aX aM ls) (hi : i + 6 ≤ L) (next : ∀ (G' N' : Nat) (σ' τ' : xS) (H' : Heap) (locs' : List Loc), RRn G' N' σ' τ' → LHp s D ca aX aM A0 σ' τ' H' locs' → W p l e room_1 s m #[Value.ref b] below meth c H' locs' cells slots Q (F0 m 1448 ls [])) : W p l e room_1 s m #[Value.ref b] below meth c H locs cells slots Q (F0 m 473 ls []) := by
  obtain ⟨hx, hb, -⟩ := C.1
  refine lv_aload_n hx hb dL_law_473 rfl (lv_at hl 2 rfl) ?_
  refine larg (k := 1) C hH hl hi (by omega) (by decide) dL_law_474 dL_law_475 dL_law_476 dL_law_477 dL_law_478 ?_
  refine larg (k := 2) C hH hl hi (by omega) (by decide) dL_law_479 dL_law_480 dL_law_481 dL_law_482 dL_law_483 ?_
  refine lcX (n := 2) (as' := [.int (xs (i + 1)), .int (xs (i + 2))]) (rest := []) C hH hl mX6_says (pX6_says_h h (xs (i + 1)) (xs (i + 2))) (fX6_says_e (s := (xs (i + 1))) (k := (xs (i + 2)))) rfl rfl rfl (by decide) (by decide) w_L_45 ⟨by decide, by decide, by decide +kernel⟩ rfl (Nat.le_of_ble_eq_true rfl) dL_law_484 (fun H1 locs1 hH1 => ?_)
  refine lv_aload_n hx hb dL_law_487 rfl (lv_at hl 3 rfl) ?_
  refine larg (k := 1) C hH1 hl hi (by omega) (by decide) dL_law_488 dL_law_489 dL_law_490 dL_law_491 dL_law_492 ?_
  refine larg (k := 2) C hH1 hl hi (by omega) (by decide) dL_law_493 dL_law_494 dL_law_495 dL_law_496 dL_law_497 ?_
  refine lcM (n := 2) (as' := [.int (xs (i + 1)), .int (xs (i + 2))]) (rest := [_]) C hH1 hl mX7_says (pX7_says_h h (xs (i + 1)) (xs (i + 2))) (fX7_says_e (s := (xs (i + 1))) (k := (xs (i + 2)))) rfl rfl rfl (by decide) (by decide) w_L_48 ⟨by decide, by decide, by decide +kernel⟩ rfl (Nat.le_of_ble_eq_true rfl) dL_law_498 (fun H2 locs2 hH2 => ?_)
  obtain ⟨hq, G', N', h'⟩ := ok_says h (xs (i + 1)) (xs (i + 2))
  refine lv_icmp_eq (tgt := 1448) hx hb dL_law_501 (by decide) (fun _ => ?_) (fun hne => absurd hq hne)
  exact next G' N' _ _ _ _ h' hH2
set_option maxHeartbeats 2000000 in
theorem law_7 (C : LSt p s m meth c b L xs D ca aX aM A0 cells slots) {G N : Nat} {σ τ : xS} (h : RRn G N σ τ) (hH : LHp s D ca aX aM A0 σ τ H locs) (hl : LLs b i aX aM ls) (hi : i + 6 ≤ L) (next : ∀ (G' N' : Nat) (σ' τ' : xS) (H' : Heap) (locs' : List Loc), RRn G' N' σ' τ' → LHp s D ca aX aM A0 σ' τ' H' locs' → W p l e room_1 s m #[Value.ref b] below meth c H' locs' cells slots Q (F0 m 1448 ls [])) : W p l e room_1 s m #[Value.ref b] below meth c H locs cells slots Q (F0 m 506 ls []) := by
  obtain ⟨hx, hb, -⟩ := C.1
  refine lv_aload_n hx hb dL_law_506 rfl (lv_at hl 2 rfl) ?_
  refine larg (k := 1) C hH hl hi (by omega) (by decide) dL_law_507 dL_law_508 dL_law_509 dL_law_510 dL_law_511 ?_
  refine larg (k := 2) C hH hl hi (by omega) (by decide) dL_law_512 dL_law_513 dL_law_514 dL_law_515 dL_law_516 ?_
  refine larg (k := 3) C hH hl hi (by omega) (by decide) dL_law_517 dL_law_518 dL_law_519 dL_law_520 dL_law_521 ?_
  refine lcX (n := 3) (as' := [.int (xs (i + 1)), .int (xs (i + 2)), .int (xs (i + 3))]) (rest := []) C hH hl mX6_gait (pX6_gait_h h (xs (i + 1)) (xs (i + 2)) (xs (i + 3))) (fX6_gait_e (s := (xs (i + 1))) (n := (xs (i + 2))) (a := (xs (i + 3)))) rfl rfl rfl (by decide) (by decide) w_L_49 ⟨by decide, by decide, by decide +kernel⟩ rfl (Nat.le_of_ble_eq_true rfl) dL_law_522 (fun H1 locs1 hH1 => ?_)
  refine lv_aload_n hx hb dL_law_525 rfl (lv_at hl 3 rfl) ?_
  refine larg (k := 1) C hH1 hl hi (by omega) (by decide) dL_law_526 dL_law_527 dL_law_528 dL_law_529 dL_law_530 ?_
  refine larg (k := 2) C hH1 hl hi (by omega) (by decide) dL_law_531 dL_law_532 dL_law_533 dL_law_534 dL_law_535 ?_
  refine larg (k := 3) C hH1 hl hi (by omega) (by decide) dL_law_536 dL_law_537 dL_law_538 dL_law_539 dL_law_540 ?_
  refine lcM (n := 3) (as' := [.int (xs (i + 1)), .int (xs (i + 2)), .int (xs (i + 3))]) (rest := [_]) C hH1 hl mX7_gait (pX7_gait_h h (xs (i + 1)) (xs (i + 2)) (xs (i + 3))) (fX7_gait_e (s := (xs (i + 1))) (n := (xs (i + 2))) (a := (xs (i + 3)))) rfl rfl rfl (by decide) (by decide) w_L_52 ⟨by decide, by decide, by decide +kernel⟩ rfl (Nat.le_of_ble_eq_true rfl) dL_law_541 (fun H2 locs2 hH2 => ?_)
  obtain ⟨hq, G', N', h'⟩ := ok_gait h (xs (i + 1)) (xs (i + 2)) (xs (i + 3))
  refine lv_icmp_eq (tgt := 1448) hx hb dL_law_544 (by decide) (fun _ => ?_) (fun hne => absurd hq hne)
  exact next G' N' _ _ _ _ h' hH2
set_option maxHeartbeats 2000000 in
theorem law_8 (C : LSt p s m meth c b L xs D ca aX aM A0 cells slots) {G N : Nat} {σ τ : xS} (h : RRn G N σ τ) (hH : LHp s D ca aX aM A0 σ τ H locs) (hl : LLs b i aX aM ls) (hi : i + 6 ≤ L) (next : ∀ (G' N' : Nat) (σ' τ' : xS) (H' : Heap) (locs' : List Loc), RRn G' N' σ' τ' → LHp s D ca aX aM A0 σ' τ' H' locs' → W p l e room_1 s m #[Value.ref b] below meth c H' locs' cells slots Q (F0 m 1448 ls [])) : W p l e room_1 s m #[Value.ref b] below meth c H locs cells slots Q (F0 m 549 ls []) := by
  obtain ⟨hx, hb, -⟩ := C.1
  refine lv_aload_n hx hb dL_law_549 rfl (lv_at hl 2 rfl) ?_
  refine larg (k := 1) C hH hl hi (by omega) (by decide) dL_law_550 dL_law_551 dL_law_552 dL_law_553 dL_law_554 ?_
  refine larg (k := 2) C hH hl hi (by omega) (by decide) dL_law_555 dL_law_556 dL_law_557 dL_law_558 dL_law_559 ?_
  refine lcX (n := 2) (as' := [.int (xs (i + 1)), .int (xs (i + 2))]) (rest := []) C hH hl mX6_gaitOf (pX6_gaitOf_h h (xs (i + 1)) (xs (i + 2))) (fX6_gaitOf_e (g := (xs (i + 1))) (x := (xs (i + 2)))) rfl rfl rfl (by decide) (by decide) w_L_53 ⟨by decide, by decide, by decide +kernel⟩ rfl (Nat.le_of_ble_eq_true rfl) dL_law_560 (fun H1 locs1 hH1 => ?_)
  refine lv_aload_n hx hb dL_law_563 rfl (lv_at hl 3 rfl) ?_
  refine larg (k := 1) C hH1 hl hi (by omega) (by decide) dL_law_564 dL_law_565 dL_law_566 dL_law_567 dL_law_568 ?_
  refine larg (k := 2) C hH1 hl hi (by omega) (by decide) dL_law_569 dL_law_570 dL_law_571 dL_law_572 dL_law_573 ?_
  refine lcM (n := 2) (as' := [.int (xs (i + 1)), .int (xs (i + 2))]) (rest := [_]) C hH1 hl mX7_gaitOf (pX7_gaitOf_h h (xs (i + 1)) (xs (i + 2))) (fX7_gaitOf_e (g := (xs (i + 1))) (x := (xs (i + 2)))) rfl rfl rfl (by decide) (by decide) w_L_56 ⟨by decide, by decide, by decide +kernel⟩ rfl (Nat.le_of_ble_eq_true rfl) dL_law_574 (fun H2 locs2 hH2 => ?_)
  obtain ⟨hq, G', N', h'⟩ := ok_gaitOf h (xs (i + 1)) (xs (i + 2))
  refine lv_icmp_eq (tgt := 1448) hx hb dL_law_577 (by decide) (fun _ => ?_) (fun hne => absurd hq hne)
  exact next G' N' _ _ _ _ h' hH2
set_option maxHeartbeats 2000000 in
theorem law_9 (C : LSt p s m meth c b L xs D ca aX aM A0 cells slots) {G N : Nat} {σ τ : xS} (h : RRn G N σ τ) (hH : LHp s D ca aX aM A0 σ τ H locs) (hl : LLs b i aX aM ls) (hi : i + 6 ≤ L) (next : ∀ (G' N' : Nat) (σ' τ' : xS) (H' : Heap) (locs' : List Loc), RRn G' N' σ' τ' → LHp s D ca aX aM A0 σ' τ' H' locs' → W p l e room_1 s m #[Value.ref b] below meth c H' locs' cells slots Q (F0 m 1448 ls [])) : W p l e room_1 s m #[Value.ref b] below meth c H locs cells slots Q (F0 m 582 ls []) := by
  obtain ⟨hx, hb, -⟩ := C.1
  refine lv_aload_n hx hb dL_law_582 rfl (lv_at hl 2 rfl) ?_
  refine larg (k := 1) C hH hl hi (by omega) (by decide) dL_law_583 dL_law_584 dL_law_585 dL_law_586 dL_law_587 ?_
  refine larg (k := 2) C hH hl hi (by omega) (by decide) dL_law_588 dL_law_589 dL_law_590 dL_law_591 dL_law_592 ?_
  refine larg (k := 3) C hH hl hi (by omega) (by decide) dL_law_593 dL_law_594 dL_law_595 dL_law_596 dL_law_597 ?_
  refine larg (k := 4) C hH hl hi (by omega) (by decide) dL_law_598 dL_law_599 dL_law_600 dL_law_601 dL_law_602 ?_
  refine larg (k := 5) C hH hl hi (by omega) (by decide) dL_law_603 dL_law_604 dL_law_605 dL_law_606 dL_law_607 ?_
  refine lcX (n := 5) (as' := [.int (xs (i + 1)), .int (xs (i + 2)), .int (xs (i + 3)), .int (xs (i + 4)), .int (xs (i + 5))]) (rest := []) C hH hl mX6_walker (pX6_walker_h h (xs (i + 1)) (xs (i + 2)) (xs (i + 3)) (xs (i + 4)) (xs (i + 5))) (fX6_walker_e (k := (xs (i + 1))) (p := (xs (i + 2))) (d := (xs (i + 3))) (g := (xs (i + 4))) (a := (xs (i + 5)))) rfl rfl rfl (by decide) (by decide) w_L_57 ⟨by decide, by decide, by decide +kernel⟩ rfl (Nat.le_of_ble_eq_true rfl) dL_law_608 (fun H1 locs1 hH1 => ?_)
  refine lv_aload_n hx hb dL_law_611 rfl (lv_at hl 3 rfl) ?_
  refine larg (k := 1) C hH1 hl hi (by omega) (by decide) dL_law_612 dL_law_613 dL_law_614 dL_law_615 dL_law_616 ?_
  refine larg (k := 2) C hH1 hl hi (by omega) (by decide) dL_law_617 dL_law_618 dL_law_619 dL_law_620 dL_law_621 ?_
  refine larg (k := 3) C hH1 hl hi (by omega) (by decide) dL_law_622 dL_law_623 dL_law_624 dL_law_625 dL_law_626 ?_
  refine larg (k := 4) C hH1 hl hi (by omega) (by decide) dL_law_627 dL_law_628 dL_law_629 dL_law_630 dL_law_631 ?_
  refine larg (k := 5) C hH1 hl hi (by omega) (by decide) dL_law_632 dL_law_633 dL_law_634 dL_law_635 dL_law_636 ?_
  refine lcM (n := 5) (as' := [.int (xs (i + 1)), .int (xs (i + 2)), .int (xs (i + 3)), .int (xs (i + 4)), .int (xs (i + 5))]) (rest := [_]) C hH1 hl mX7_walker (pX7_walker_h h (xs (i + 1)) (xs (i + 2)) (xs (i + 3)) (xs (i + 4)) (xs (i + 5))) (fX7_walker_e (k := (xs (i + 1))) (p := (xs (i + 2))) (d := (xs (i + 3))) (g := (xs (i + 4))) (a := (xs (i + 5)))) rfl rfl rfl (by decide) (by decide) w_L_60 ⟨by decide, by decide, by decide +kernel⟩ rfl (Nat.le_of_ble_eq_true rfl) dL_law_637 (fun H2 locs2 hH2 => ?_)
  obtain ⟨hq, G', N', h'⟩ := ok_walker h (xs (i + 1)) (xs (i + 2)) (xs (i + 3)) (xs (i + 4)) (xs (i + 5))
  refine lv_icmp_eq (tgt := 1448) hx hb dL_law_640 (by decide) (fun _ => ?_) (fun hne => absurd hq hne)
  exact next G' N' _ _ _ _ h' hH2
set_option maxHeartbeats 2000000 in
theorem law_10 (C : LSt p s m meth c b L xs D ca aX aM A0 cells slots) {G N : Nat} {σ τ : xS} (h : RRn G N σ τ) (hH : LHp s D ca aX aM A0 σ τ H locs) (hl : LLs b i aX aM ls) (hi : i + 6 ≤ L) (next : ∀ (G' N' : Nat) (σ' τ' : xS) (H' : Heap) (locs' : List Loc), RRn G' N' σ' τ' → LHp s D ca aX aM A0 σ' τ' H' locs' → W p l e room_1 s m #[Value.ref b] below meth c H' locs' cells slots Q (F0 m 1448 ls [])) : W p l e room_1 s m #[Value.ref b] below meth c H locs cells slots Q (F0 m 645 ls []) := by
  obtain ⟨hx, hb, -⟩ := C.1
  refine lv_aload_n hx hb dL_law_645 rfl (lv_at hl 2 rfl) ?_
  refine larg (k := 1) C hH hl hi (by omega) (by decide) dL_law_646 dL_law_647 dL_law_648 dL_law_649 dL_law_650 ?_
  refine larg (k := 2) C hH hl hi (by omega) (by decide) dL_law_651 dL_law_652 dL_law_653 dL_law_654 dL_law_655 ?_
  refine lcX (n := 2) (as' := [.int (xs (i + 1)), .int (xs (i + 2))]) (rest := []) C hH hl mX6_walkerOf (pX6_walkerOf_h h (xs (i + 1)) (xs (i + 2))) (fX6_walkerOf_e (x := (xs (i + 1))) (y := (xs (i + 2)))) rfl rfl rfl (by decide) (by decide) w_L_61 ⟨by decide, by decide, by decide +kernel⟩ rfl (Nat.le_of_ble_eq_true rfl) dL_law_656 (fun H1 locs1 hH1 => ?_)
  refine lv_aload_n hx hb dL_law_659 rfl (lv_at hl 3 rfl) ?_
  refine larg (k := 1) C hH1 hl hi (by omega) (by decide) dL_law_660 dL_law_661 dL_law_662 dL_law_663 dL_law_664 ?_
  refine larg (k := 2) C hH1 hl hi (by omega) (by decide) dL_law_665 dL_law_666 dL_law_667 dL_law_668 dL_law_669 ?_
  refine lcM (n := 2) (as' := [.int (xs (i + 1)), .int (xs (i + 2))]) (rest := [_]) C hH1 hl mX7_walkerOf (pX7_walkerOf_h h (xs (i + 1)) (xs (i + 2))) (fX7_walkerOf_e (x := (xs (i + 1))) (y := (xs (i + 2)))) rfl rfl rfl (by decide) (by decide) w_L_64 ⟨by decide, by decide, by decide +kernel⟩ rfl (Nat.le_of_ble_eq_true rfl) dL_law_670 (fun H2 locs2 hH2 => ?_)
  obtain ⟨hq, G', N', h'⟩ := ok_walkerOf h (xs (i + 1)) (xs (i + 2))
  refine lv_icmp_eq (tgt := 1448) hx hb dL_law_673 (by decide) (fun _ => ?_) (fun hne => absurd hq hne)
  exact next G' N' _ _ _ _ h' hH2
set_option maxHeartbeats 2000000 in
theorem law_11 (C : LSt p s m meth c b L xs D ca aX aM A0 cells slots) {G N : Nat} {σ τ : xS} (h : RRn G N σ τ) (hH : LHp s D ca aX aM A0 σ τ H locs) (hl : LLs b i aX aM ls) (hi : i + 6 ≤ L) (next : ∀ (G' N' : Nat) (σ' τ' : xS) (H' : Heap) (locs' : List Loc), RRn G' N' σ' τ' → LHp s D ca aX aM A0 σ' τ' H' locs' → W p l e room_1 s m #[Value.ref b] below meth c H' locs' cells slots Q (F0 m 1448 ls [])) : W p l e room_1 s m #[Value.ref b] below meth c H locs cells slots Q (F0 m 678 ls []) := by
  obtain ⟨hx, hb, -⟩ := C.1
  refine lv_aload_n hx hb dL_law_678 rfl (lv_at hl 2 rfl) ?_
  refine larg (k := 1) C hH hl hi (by omega) (by decide) dL_law_679 dL_law_680 dL_law_681 dL_law_682 dL_law_683 ?_
  refine larg (k := 2) C hH hl hi (by omega) (by decide) dL_law_684 dL_law_685 dL_law_686 dL_law_687 dL_law_688 ?_
  refine lbool C dL_law_689 dL_law_692 dL_law_693 dL_law_696 ?_
  refine lcX (n := 2) (as' := [.int (xs (i + 1)), .int (if xs (i + 2) = 0 then 0 else 1)]) (rest := []) C hH hl mX6_wall (pX6_wall_h h (xs (i + 1)) (if xs (i + 2) = 0 then 0 else 1)) (fX6_wall_e (p := (xs (i + 1))) (b := (if xs (i + 2) = 0 then 0 else 1))) rfl rfl rfl (by decide) (by decide) w_L_65 ⟨by decide, by decide, by decide +kernel⟩ rfl (Nat.le_of_ble_eq_true rfl) dL_law_697 (fun H1 locs1 hH1 => ?_)
  refine lv_aload_n hx hb dL_law_700 rfl (lv_at hl 3 rfl) ?_
  refine larg (k := 1) C hH1 hl hi (by omega) (by decide) dL_law_701 dL_law_702 dL_law_703 dL_law_704 dL_law_705 ?_
  refine larg (k := 2) C hH1 hl hi (by omega) (by decide) dL_law_706 dL_law_707 dL_law_708 dL_law_709 dL_law_710 ?_
  refine lbool C dL_law_711 dL_law_714 dL_law_715 dL_law_718 ?_
  refine lcM (n := 2) (as' := [.int (xs (i + 1)), .int (if xs (i + 2) = 0 then 0 else 1)]) (rest := [_]) C hH1 hl mX7_wall (pX7_wall_h h (xs (i + 1)) (if xs (i + 2) = 0 then 0 else 1)) (fX7_wall_e (p := (xs (i + 1))) (b := (if xs (i + 2) = 0 then 0 else 1))) rfl rfl rfl (by decide) (by decide) w_L_69 ⟨by decide, by decide, by decide +kernel⟩ rfl (Nat.le_of_ble_eq_true rfl) dL_law_719 (fun H2 locs2 hH2 => ?_)
  obtain ⟨hq, G', N', h'⟩ := ok_wall h (xs (i + 1)) (if xs (i + 2) = 0 then 0 else 1) (by split <;> simp)
  refine lv_icmp_eq (tgt := 1448) hx hb dL_law_722 (by decide) (fun _ => ?_) (fun hne => absurd hq hne)
  exact next G' N' _ _ _ _ h' hH2
set_option maxHeartbeats 2000000 in
theorem law_12 (C : LSt p s m meth c b L xs D ca aX aM A0 cells slots) {G N : Nat} {σ τ : xS} (h : RRn G N σ τ) (hH : LHp s D ca aX aM A0 σ τ H locs) (hl : LLs b i aX aM ls) (hi : i + 6 ≤ L) (next : ∀ (G' N' : Nat) (σ' τ' : xS) (H' : Heap) (locs' : List Loc), RRn G' N' σ' τ' → LHp s D ca aX aM A0 σ' τ' H' locs' → W p l e room_1 s m #[Value.ref b] below meth c H' locs' cells slots Q (F0 m 1448 ls [])) : W p l e room_1 s m #[Value.ref b] below meth c H locs cells slots Q (F0 m 727 ls []) := by
  obtain ⟨hx, hb, -⟩ := C.1
  refine lv_aload_n hx hb dL_law_727 rfl (lv_at hl 2 rfl) ?_
  refine larg (k := 1) C hH hl hi (by omega) (by decide) dL_law_728 dL_law_729 dL_law_730 dL_law_731 dL_law_732 ?_
  refine lcX (n := 1) (as' := [.int (xs (i + 1))]) (rest := []) C hH hl mX6_isWall (pX6_isWall_h h (xs (i + 1))) (fX6_isWall_e (p := (xs (i + 1)))) rfl rfl rfl (by decide) (by decide) w_L_70 ⟨by decide, by decide, by decide +kernel⟩ rfl (Nat.le_of_ble_eq_true rfl) dL_law_733 (fun H1 locs1 hH1 => ?_)
  refine lv_aload_n hx hb dL_law_736 rfl (lv_at hl 3 rfl) ?_
  refine larg (k := 1) C hH1 hl hi (by omega) (by decide) dL_law_737 dL_law_738 dL_law_739 dL_law_740 dL_law_741 ?_
  refine lcM (n := 1) (as' := [.int (xs (i + 1))]) (rest := [_]) C hH1 hl mX7_isWall (pX7_isWall_h h (xs (i + 1))) (fX7_isWall_e (p := (xs (i + 1)))) rfl rfl rfl (by decide) (by decide) w_L_73 ⟨by decide, by decide, by decide +kernel⟩ rfl (Nat.le_of_ble_eq_true rfl) dL_law_742 (fun H2 locs2 hH2 => ?_)
  obtain ⟨hq, G', N', h'⟩ := ok_isWall h (xs (i + 1))
  refine lv_icmp_eq (tgt := 1448) hx hb dL_law_745 (by decide) (fun _ => ?_) (fun hne => absurd hq hne)
  exact next G' N' _ _ _ _ h' hH2
end LAWCASES
