/-! the law, case by case -/
section LAWK1
variable {p : Program} {l : Launch} {e : Env} {s : State} {m : MethodId} {below : List Frame} {meth : Method} {c : Code} {b L : Nat} {xs : Nat → Int32} {Q : State → Prop} {D : va_G} {dA : Nat → ClassId} {cells slots : Nat} {H : Heap} {locs : List Loc} {ls : Array Slot} {x3 : Int32} {q : Nat} {G : SG} {J : SJ}
theorem law_c3 (C0 : lw_At p s m meth c b L xs) (hK : va_K D vwCl (tyL dA) s) (hl : lv_has ls 4 (LVW s b x3)) (hin : HI x3 L) (hq : KF[q]? = some (.inr 3)) (hR : RELx G) (hP : Rp D dA s.heap.size KF G J (RQ q) H) (hS : va_S (AA s.heap.size) s.heap H locs) (hc : cells ≤ 600000) (hs : slots ≤ 7302249) (nxt : NX p l e s m b below meth c Q cells slots ls D dA) : WW p l e s m b below meth c Q cells slots ls H locs 273 [] := by
  obtain ⟨hx, hb, hr, hml, hown, hts, hX, hbl, hlocks, hgv⟩ := id C0
  have push1 : ∀ (H : Heap) (locs : List Loc), va_S (AA s.heap.size) s.heap H locs → WW p l e s m b below meth c Q cells slots ls H locs 284 (((([.int (xs (x3 + 1).toNatClampNeg), .int (xs (x3 + 2).toNatClampNeg)] : List Value)).map (cv s.heap.size)).reverse ++ [.ref (s.heap.size + 0)]) → WW p l e s m b below meth c Q cells slots ls H locs 273 [] := fun H locs hS kk => by
    refine lv_aload_n hx hb dL_law_273 rfl (lv_at hl 2 rfl) ?_
    refine push_arg C0 hl hS dL_law_274 dL_law_275 dL_law_276 dL_law_277 dL_law_278 (v := 1) (by decide) hin.1 ?_
    refine push_arg C0 hl hS dL_law_279 dL_law_280 dL_law_281 dL_law_282 dL_law_283 (v := 2) (by decide) hin.2.1 ?_
    exact kk
  have push2 : ∀ (H : Heap) (locs : List Loc) (v : Value), va_S (AA s.heap.size) s.heap H locs → WW p l e s m b below meth c Q cells slots ls H locs 298 (((([.int (xs (x3 + 1).toNatClampNeg), .int (xs (x3 + 2).toNatClampNeg)] : List Value)).map (cv s.heap.size)).reverse ++ [.ref (s.heap.size + 58), v]) → WW p l e s m b below meth c Q cells slots ls H locs (284 + 3) [v] := fun H locs v hS kk => by
    refine lv_aload_n hx hb dL_law_287 rfl (lv_at hl 1 rfl) ?_
    refine push_arg C0 hl hS dL_law_288 dL_law_289 dL_law_290 dL_law_291 dL_law_292 (v := 1) (by decide) hin.1 ?_
    refine push_arg C0 hl hS dL_law_293 dL_law_294 dL_law_295 dL_law_296 dL_law_297 (v := 2) (by decide) hin.2.1 ?_
    exact kk
  exact both C0 hK (kx := 62) (km := 116) (as := [.int (xs (x3 + 1).toNatClampNeg), .int (xs (x3 + 2).toNatClampNeg)]) (same_as (xs (x3 + 1).toNatClampNeg) (xs (x3 + 2).toNatClampNeg)) (by decide +kernel) (by decide +kernel) ⟨⟨by decide +kernel, by decide +kernel, by decide +kernel, rfl, rfl, Nat.le_of_ble_eq_true rfl⟩, by decide +kernel⟩ ⟨⟨by decide +kernel, by decide +kernel, by decide +kernel, rfl, Nat.le_of_ble_eq_true rfl⟩, by decide +kernel⟩ push1 push2 dL_law_284 dL_law_298 dL_law_301 (by decide) hl.1 hq hR hP hS hc hs nxt
theorem law_c4 (C0 : lw_At p s m meth c b L xs) (hK : va_K D vwCl (tyL dA) s) (hl : lv_has ls 4 (LVW s b x3)) (hin : HI x3 L) (hq : KF[q]? = some (.inr 3)) (hR : RELx G) (hP : Rp D dA s.heap.size KF G J (RQ q) H) (hS : va_S (AA s.heap.size) s.heap H locs) (hc : cells ≤ 600000) (hs : slots ≤ 7302249) (nxt : NX p l e s m b below meth c Q cells slots ls D dA) : WW p l e s m b below meth c Q cells slots ls H locs 306 [] := by
  obtain ⟨hx, hb, hr, hml, hown, hts, hX, hbl, hlocks, hgv⟩ := id C0
  have push1 : ∀ (H : Heap) (locs : List Loc), va_S (AA s.heap.size) s.heap H locs → WW p l e s m b below meth c Q cells slots ls H locs 317 (((([.int (xs (x3 + 1).toNatClampNeg), .int (xs (x3 + 2).toNatClampNeg)] : List Value)).map (cv s.heap.size)).reverse ++ [.ref (s.heap.size + 0)]) → WW p l e s m b below meth c Q cells slots ls H locs 306 [] := fun H locs hS kk => by
    refine lv_aload_n hx hb dL_law_306 rfl (lv_at hl 2 rfl) ?_
    refine push_arg C0 hl hS dL_law_307 dL_law_308 dL_law_309 dL_law_310 dL_law_311 (v := 1) (by decide) hin.1 ?_
    refine push_arg C0 hl hS dL_law_312 dL_law_313 dL_law_314 dL_law_315 dL_law_316 (v := 2) (by decide) hin.2.1 ?_
    exact kk
  have push2 : ∀ (H : Heap) (locs : List Loc) (v : Value), va_S (AA s.heap.size) s.heap H locs → WW p l e s m b below meth c Q cells slots ls H locs 331 (((([.int (xs (x3 + 1).toNatClampNeg), .int (xs (x3 + 2).toNatClampNeg)] : List Value)).map (cv s.heap.size)).reverse ++ [.ref (s.heap.size + 58), v]) → WW p l e s m b below meth c Q cells slots ls H locs (317 + 3) [v] := fun H locs v hS kk => by
    refine lv_aload_n hx hb dL_law_320 rfl (lv_at hl 1 rfl) ?_
    refine push_arg C0 hl hS dL_law_321 dL_law_322 dL_law_323 dL_law_324 dL_law_325 (v := 1) (by decide) hin.1 ?_
    refine push_arg C0 hl hS dL_law_326 dL_law_327 dL_law_328 dL_law_329 dL_law_330 (v := 2) (by decide) hin.2.1 ?_
    exact kk
  exact both C0 hK (kx := 63) (km := 117) (as := [.int (xs (x3 + 1).toNatClampNeg), .int (xs (x3 + 2).toNatClampNeg)]) (same_about (xs (x3 + 1).toNatClampNeg) (xs (x3 + 2).toNatClampNeg)) (by decide +kernel) (by decide +kernel) ⟨⟨by decide +kernel, by decide +kernel, by decide +kernel, rfl, rfl, Nat.le_of_ble_eq_true rfl⟩, by decide +kernel⟩ ⟨⟨by decide +kernel, by decide +kernel, by decide +kernel, rfl, Nat.le_of_ble_eq_true rfl⟩, by decide +kernel⟩ push1 push2 dL_law_317 dL_law_331 dL_law_334 (by decide) hl.1 hq hR hP hS hc hs nxt
theorem law_c5 (C0 : lw_At p s m meth c b L xs) (hK : va_K D vwCl (tyL dA) s) (hl : lv_has ls 4 (LVW s b x3)) (hin : HI x3 L) (hq : KF[q]? = some (.inr 3)) (hR : RELx G) (hP : Rp D dA s.heap.size KF G J (RQ q) H) (hS : va_S (AA s.heap.size) s.heap H locs) (hc : cells ≤ 600000) (hs : slots ≤ 7302249) (nxt : NX p l e s m b below meth c Q cells slots ls D dA) : WW p l e s m b below meth c Q cells slots ls H locs 339 [] := by
  obtain ⟨hx, hb, hr, hml, hown, hts, hX, hbl, hlocks, hgv⟩ := id C0
  have push1 : ∀ (H : Heap) (locs : List Loc), va_S (AA s.heap.size) s.heap H locs → WW p l e s m b below meth c Q cells slots ls H locs 360 (((([.int (xs (x3 + 1).toNatClampNeg), .int (xs (x3 + 2).toNatClampNeg), .int (xs (x3 + 3).toNatClampNeg), .int (xs (x3 + 4).toNatClampNeg)] : List Value)).map (cv s.heap.size)).reverse ++ [.ref (s.heap.size + 0)]) → WW p l e s m b below meth c Q cells slots ls H locs 339 [] := fun H locs hS kk => by
    refine lv_aload_n hx hb dL_law_339 rfl (lv_at hl 2 rfl) ?_
    refine push_arg C0 hl hS dL_law_340 dL_law_341 dL_law_342 dL_law_343 dL_law_344 (v := 1) (by decide) hin.1 ?_
    refine push_arg C0 hl hS dL_law_345 dL_law_346 dL_law_347 dL_law_348 dL_law_349 (v := 2) (by decide) hin.2.1 ?_
    refine push_arg C0 hl hS dL_law_350 dL_law_351 dL_law_352 dL_law_353 dL_law_354 (v := 3) (by decide) hin.2.2.1 ?_
    refine push_arg C0 hl hS dL_law_355 dL_law_356 dL_law_357 dL_law_358 dL_law_359 (v := 4) (by decide) hin.2.2.2.1 ?_
    exact kk
  have push2 : ∀ (H : Heap) (locs : List Loc) (v : Value), va_S (AA s.heap.size) s.heap H locs → WW p l e s m b below meth c Q cells slots ls H locs 384 (((([.int (xs (x3 + 1).toNatClampNeg), .int (xs (x3 + 2).toNatClampNeg), .int (xs (x3 + 3).toNatClampNeg), .int (xs (x3 + 4).toNatClampNeg)] : List Value)).map (cv s.heap.size)).reverse ++ [.ref (s.heap.size + 58), v]) → WW p l e s m b below meth c Q cells slots ls H locs (360 + 3) [v] := fun H locs v hS kk => by
    refine lv_aload_n hx hb dL_law_363 rfl (lv_at hl 1 rfl) ?_
    refine push_arg C0 hl hS dL_law_364 dL_law_365 dL_law_366 dL_law_367 dL_law_368 (v := 1) (by decide) hin.1 ?_
    refine push_arg C0 hl hS dL_law_369 dL_law_370 dL_law_371 dL_law_372 dL_law_373 (v := 2) (by decide) hin.2.1 ?_
    refine push_arg C0 hl hS dL_law_374 dL_law_375 dL_law_376 dL_law_377 dL_law_378 (v := 3) (by decide) hin.2.2.1 ?_
    refine push_arg C0 hl hS dL_law_379 dL_law_380 dL_law_381 dL_law_382 dL_law_383 (v := 4) (by decide) hin.2.2.2.1 ?_
    exact kk
  exact both C0 hK (kx := 64) (km := 119) (as := [.int (xs (x3 + 1).toNatClampNeg), .int (xs (x3 + 2).toNatClampNeg), .int (xs (x3 + 3).toNatClampNeg), .int (xs (x3 + 4).toNatClampNeg)]) (same_enter (xs (x3 + 1).toNatClampNeg) (xs (x3 + 2).toNatClampNeg) (xs (x3 + 3).toNatClampNeg) (xs (x3 + 4).toNatClampNeg)) (by decide +kernel) (by decide +kernel) ⟨⟨by decide +kernel, by decide +kernel, by decide +kernel, rfl, rfl, Nat.le_of_ble_eq_true rfl⟩, by decide +kernel⟩ ⟨⟨by decide +kernel, by decide +kernel, by decide +kernel, rfl, Nat.le_of_ble_eq_true rfl⟩, by decide +kernel⟩ push1 push2 dL_law_360 dL_law_384 dL_law_387 (by decide) hl.1 hq hR hP hS hc hs nxt
theorem law_c6 (C0 : lw_At p s m meth c b L xs) (hK : va_K D vwCl (tyL dA) s) (hl : lv_has ls 4 (LVW s b x3)) (hin : HI x3 L) (hq : KF[q]? = some (.inr 3)) (hR : RELx G) (hP : Rp D dA s.heap.size KF G J (RQ q) H) (hS : va_S (AA s.heap.size) s.heap H locs) (hc : cells ≤ 600000) (hs : slots ≤ 7302249) (nxt : NX p l e s m b below meth c Q cells slots ls D dA) : WW p l e s m b below meth c Q cells slots ls H locs 392 [] := by
  obtain ⟨hx, hb, hr, hml, hown, hts, hX, hbl, hlocks, hgv⟩ := id C0
  have push1 : ∀ (H : Heap) (locs : List Loc), va_S (AA s.heap.size) s.heap H locs → WW p l e s m b below meth c Q cells slots ls H locs 411 (((([.int (xs (x3 + 1).toNatClampNeg), .int (bi (¬ (xs (x3 + 2).toNatClampNeg) = 0))] : List Value)).map (cv s.heap.size)).reverse ++ [.ref (s.heap.size + 0)]) → WW p l e s m b below meth c Q cells slots ls H locs 392 [] := fun H locs hS kk => by
    refine lv_aload_n hx hb dL_law_392 rfl (lv_at hl 2 rfl) ?_
    refine push_arg C0 hl hS dL_law_393 dL_law_394 dL_law_395 dL_law_396 dL_law_397 (v := 1) (by decide) hin.1 ?_
    refine push_arg C0 hl hS dL_law_398 dL_law_399 dL_law_400 dL_law_401 dL_law_402 (v := 2) (by decide) hin.2.1 ?_
    refine push_bool C0 dL_law_403 dL_law_406 dL_law_407 dL_law_410 ?_
    exact kk
  have push2 : ∀ (H : Heap) (locs : List Loc) (v : Value), va_S (AA s.heap.size) s.heap H locs → WW p l e s m b below meth c Q cells slots ls H locs 433 (((([.int (xs (x3 + 1).toNatClampNeg), .int (bi (¬ (xs (x3 + 2).toNatClampNeg) = 0))] : List Value)).map (cv s.heap.size)).reverse ++ [.ref (s.heap.size + 58), v]) → WW p l e s m b below meth c Q cells slots ls H locs (411 + 3) [v] := fun H locs v hS kk => by
    refine lv_aload_n hx hb dL_law_414 rfl (lv_at hl 1 rfl) ?_
    refine push_arg C0 hl hS dL_law_415 dL_law_416 dL_law_417 dL_law_418 dL_law_419 (v := 1) (by decide) hin.1 ?_
    refine push_arg C0 hl hS dL_law_420 dL_law_421 dL_law_422 dL_law_423 dL_law_424 (v := 2) (by decide) hin.2.1 ?_
    refine push_bool C0 dL_law_425 dL_law_428 dL_law_429 dL_law_432 ?_
    exact kk
  exact both C0 hK (kx := 65) (km := 120) (as := [.int (xs (x3 + 1).toNatClampNeg), .int (bi (¬ (xs (x3 + 2).toNatClampNeg) = 0))]) (same_leaf (xs (x3 + 1).toNatClampNeg) (bi (¬ (xs (x3 + 2).toNatClampNeg) = 0)) (bi_01 _)) (by decide +kernel) (by decide +kernel) ⟨⟨by decide +kernel, by decide +kernel, by decide +kernel, rfl, rfl, Nat.le_of_ble_eq_true rfl⟩, by decide +kernel⟩ ⟨⟨by decide +kernel, by decide +kernel, by decide +kernel, rfl, Nat.le_of_ble_eq_true rfl⟩, by decide +kernel⟩ push1 push2 dL_law_411 dL_law_433 dL_law_436 (by decide) hl.1 hq hR hP hS hc hs nxt
theorem law_c7 (C0 : lw_At p s m meth c b L xs) (hK : va_K D vwCl (tyL dA) s) (hl : lv_has ls 4 (LVW s b x3)) (hin : HI x3 L) (hq : KF[q]? = some (.inr 3)) (hR : RELx G) (hP : Rp D dA s.heap.size KF G J (RQ q) H) (hS : va_S (AA s.heap.size) s.heap H locs) (hc : cells ≤ 600000) (hs : slots ≤ 7302249) (nxt : NX p l e s m b below meth c Q cells slots ls D dA) : WW p l e s m b below meth c Q cells slots ls H locs 441 [] := by
  obtain ⟨hx, hb, hr, hml, hown, hts, hX, hbl, hlocks, hgv⟩ := id C0
  have push1 : ∀ (H : Heap) (locs : List Loc), va_S (AA s.heap.size) s.heap H locs → WW p l e s m b below meth c Q cells slots ls H locs 452 (((([.int (xs (x3 + 1).toNatClampNeg), .int (xs (x3 + 2).toNatClampNeg)] : List Value)).map (cv s.heap.size)).reverse ++ [.ref (s.heap.size + 0)]) → WW p l e s m b below meth c Q cells slots ls H locs 441 [] := fun H locs hS kk => by
    refine lv_aload_n hx hb dL_law_441 rfl (lv_at hl 2 rfl) ?_
    refine push_arg C0 hl hS dL_law_442 dL_law_443 dL_law_444 dL_law_445 dL_law_446 (v := 1) (by decide) hin.1 ?_
    refine push_arg C0 hl hS dL_law_447 dL_law_448 dL_law_449 dL_law_450 dL_law_451 (v := 2) (by decide) hin.2.1 ?_
    exact kk
  have push2 : ∀ (H : Heap) (locs : List Loc) (v : Value), va_S (AA s.heap.size) s.heap H locs → WW p l e s m b below meth c Q cells slots ls H locs 466 (((([.int (xs (x3 + 1).toNatClampNeg), .int (xs (x3 + 2).toNatClampNeg)] : List Value)).map (cv s.heap.size)).reverse ++ [.ref (s.heap.size + 58), v]) → WW p l e s m b below meth c Q cells slots ls H locs (452 + 3) [v] := fun H locs v hS kk => by
    refine lv_aload_n hx hb dL_law_455 rfl (lv_at hl 1 rfl) ?_
    refine push_arg C0 hl hS dL_law_456 dL_law_457 dL_law_458 dL_law_459 dL_law_460 (v := 1) (by decide) hin.1 ?_
    refine push_arg C0 hl hS dL_law_461 dL_law_462 dL_law_463 dL_law_464 dL_law_465 (v := 2) (by decide) hin.2.1 ?_
    exact kk
  exact both C0 hK (kx := 66) (km := 121) (as := [.int (xs (x3 + 1).toNatClampNeg), .int (xs (x3 + 2).toNatClampNeg)]) (same_knew (xs (x3 + 1).toNatClampNeg) (xs (x3 + 2).toNatClampNeg)) (by decide +kernel) (by decide +kernel) ⟨⟨by decide +kernel, by decide +kernel, by decide +kernel, rfl, rfl, Nat.le_of_ble_eq_true rfl⟩, by decide +kernel⟩ ⟨⟨by decide +kernel, by decide +kernel, by decide +kernel, rfl, Nat.le_of_ble_eq_true rfl⟩, by decide +kernel⟩ push1 push2 dL_law_452 dL_law_466 dL_law_469 (by decide) hl.1 hq hR hP hS hc hs nxt
end LAWK1
