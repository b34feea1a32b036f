/-! the law, case by case -/
section LAWK2
variable {p : Program} {l : Launch} {e : Env} {s : State} {m : MethodId} {below : List Frame} {meth : Method} {c : Code} {b L : Nat} {xs : Nat → Int32} {Q : State → Prop} {D : va_G} {dA : Nat → ClassId} {cells slots : Nat} {H : Heap} {locs : List Loc} {ls : Array Slot} {x3 : Int32} {q : Nat} {G : SG} {J : SJ}
theorem law_c8 (C0 : lw_At p s m meth c b L xs) (hK : va_K D vwCl (tyL dA) s) (hl : lv_has ls 4 (LVW s b x3)) (hin : HI x3 L) (hq : KF[q]? = some (.inr 3)) (hR : RELx G) (hP : Rp D dA s.heap.size KF G J (RQ q) H) (hS : va_S (AA s.heap.size) s.heap H locs) (hc : cells ≤ 600000) (hs : slots ≤ 7302249) (nxt : NX p l e s m b below meth c Q cells slots ls D dA) : WW p l e s m b below meth c Q cells slots ls H locs 474 [] := by
  obtain ⟨hx, hb, hr, hml, hown, hts, hX, hbl, hlocks, hgv⟩ := id C0
  have push1 : ∀ (H : Heap) (locs : List Loc), va_S (AA s.heap.size) s.heap H locs → WW p l e s m b below meth c Q cells slots ls H locs 490 (((([.int (xs (x3 + 1).toNatClampNeg), .int (xs (x3 + 2).toNatClampNeg), .int (xs (x3 + 3).toNatClampNeg)] : List Value)).map (cv s.heap.size)).reverse ++ [.ref (s.heap.size + 0)]) → WW p l e s m b below meth c Q cells slots ls H locs 474 [] := fun H locs hS kk => by
    refine lv_aload_n hx hb dL_law_474 rfl (lv_at hl 2 rfl) ?_
    refine push_arg C0 hl hS dL_law_475 dL_law_476 dL_law_477 dL_law_478 dL_law_479 (v := 1) (by decide) hin.1 ?_
    refine push_arg C0 hl hS dL_law_480 dL_law_481 dL_law_482 dL_law_483 dL_law_484 (v := 2) (by decide) hin.2.1 ?_
    refine push_arg C0 hl hS dL_law_485 dL_law_486 dL_law_487 dL_law_488 dL_law_489 (v := 3) (by decide) hin.2.2.1 ?_
    exact kk
  have push2 : ∀ (H : Heap) (locs : List Loc) (v : Value), va_S (AA s.heap.size) s.heap H locs → WW p l e s m b below meth c Q cells slots ls H locs 509 (((([.int (xs (x3 + 1).toNatClampNeg), .int (xs (x3 + 2).toNatClampNeg), .int (xs (x3 + 3).toNatClampNeg)] : List Value)).map (cv s.heap.size)).reverse ++ [.ref (s.heap.size + 58), v]) → WW p l e s m b below meth c Q cells slots ls H locs (490 + 3) [v] := fun H locs v hS kk => by
    refine lv_aload_n hx hb dL_law_493 rfl (lv_at hl 1 rfl) ?_
    refine push_arg C0 hl hS dL_law_494 dL_law_495 dL_law_496 dL_law_497 dL_law_498 (v := 1) (by decide) hin.1 ?_
    refine push_arg C0 hl hS dL_law_499 dL_law_500 dL_law_501 dL_law_502 dL_law_503 (v := 2) (by decide) hin.2.1 ?_
    refine push_arg C0 hl hS dL_law_504 dL_law_505 dL_law_506 dL_law_507 dL_law_508 (v := 3) (by decide) hin.2.2.1 ?_
    exact kk
  exact both C0 hK (kx := 67) (km := 112) (as := [.int (xs (x3 + 1).toNatClampNeg), .int (xs (x3 + 2).toNatClampNeg), .int (xs (x3 + 3).toNatClampNeg)]) (same_lives (xs (x3 + 1).toNatClampNeg) (xs (x3 + 2).toNatClampNeg) (xs (x3 + 3).toNatClampNeg)) (by decide +kernel) (by decide +kernel) ⟨⟨by decide +kernel, by decide +kernel, by decide +kernel, rfl, rfl, Nat.le_of_ble_eq_true rfl⟩, by decide +kernel⟩ ⟨⟨by decide +kernel, by decide +kernel, by decide +kernel, rfl, Nat.le_of_ble_eq_true rfl⟩, by decide +kernel⟩ push1 push2 dL_law_490 dL_law_509 dL_law_512 (by decide) hl.1 hq hR hP hS hc hs nxt
theorem law_c9 (C0 : lw_At p s m meth c b L xs) (hK : va_K D vwCl (tyL dA) s) (hl : lv_has ls 4 (LVW s b x3)) (hin : HI x3 L) (hq : KF[q]? = some (.inr 3)) (hR : RELx G) (hP : Rp D dA s.heap.size KF G J (RQ q) H) (hS : va_S (AA s.heap.size) s.heap H locs) (hc : cells ≤ 600000) (hs : slots ≤ 7302249) (nxt : NX p l e s m b below meth c Q cells slots ls D dA) : WW p l e s m b below meth c Q cells slots ls H locs 517 [] := by
  obtain ⟨hx, hb, hr, hml, hown, hts, hX, hbl, hlocks, hgv⟩ := id C0
  have push1 : ∀ (H : Heap) (locs : List Loc), va_S (AA s.heap.size) s.heap H locs → WW p l e s m b below meth c Q cells slots ls H locs 538 (((([.long (wl (xs (x3 + 1).toNatClampNeg) (xs (x3 + 2).toNatClampNeg))] : List Value)).map (cv s.heap.size)).reverse ++ [.ref (s.heap.size + 0)]) → WW p l e s m b below meth c Q cells slots ls H locs 517 [] := fun H locs hS kk => by
    refine lv_aload_n hx hb dL_law_517 rfl (lv_at hl 2 rfl) ?_
    refine push_arg C0 hl hS dL_law_518 dL_law_519 dL_law_520 dL_law_521 dL_law_522 (v := 1) (by decide) hin.1 ?_
    refine lv_i2l hx hb dL_law_523 rfl ?_
    refine lv_bipush (v := 32) hx hb dL_law_524 (by decide) ?_
    refine lv_lshl hx hb dL_law_526 rfl ?_
    refine push_arg C0 hl hS dL_law_527 dL_law_528 dL_law_529 dL_law_530 dL_law_531 (v := 2) (by decide) hin.2.1 ?_
    refine lv_i2l hx hb dL_law_532 rfl ?_
    refine lv_ldc2 hx hb hown (hts _ lk55) dL_law_533 ?_
    refine lv_land hx hb dL_law_536 ?_
    refine lv_lor hx hb dL_law_537 ?_
    exact kk
  have push2 : ∀ (H : Heap) (locs : List Loc) (v : Value), va_S (AA s.heap.size) s.heap H locs → WW p l e s m b below meth c Q cells slots ls H locs 562 (((([.long (wl (xs (x3 + 1).toNatClampNeg) (xs (x3 + 2).toNatClampNeg))] : List Value)).map (cv s.heap.size)).reverse ++ [.ref (s.heap.size + 58), v]) → WW p l e s m b below meth c Q cells slots ls H locs (538 + 3) [v] := fun H locs v hS kk => by
    refine lv_aload_n hx hb dL_law_541 rfl (lv_at hl 1 rfl) ?_
    refine push_arg C0 hl hS dL_law_542 dL_law_543 dL_law_544 dL_law_545 dL_law_546 (v := 1) (by decide) hin.1 ?_
    refine lv_i2l hx hb dL_law_547 rfl ?_
    refine lv_bipush (v := 32) hx hb dL_law_548 (by decide) ?_
    refine lv_lshl hx hb dL_law_550 rfl ?_
    refine push_arg C0 hl hS dL_law_551 dL_law_552 dL_law_553 dL_law_554 dL_law_555 (v := 2) (by decide) hin.2.1 ?_
    refine lv_i2l hx hb dL_law_556 rfl ?_
    refine lv_ldc2 hx hb hown (hts _ lk55) dL_law_557 ?_
    refine lv_land hx hb dL_law_560 ?_
    refine lv_lor hx hb dL_law_561 ?_
    exact kk
  exact both C0 hK (kx := 68) (km := 122) (as := [.long (wl (xs (x3 + 1).toNatClampNeg) (xs (x3 + 2).toNatClampNeg))]) (same_letters (wl (xs (x3 + 1).toNatClampNeg) (xs (x3 + 2).toNatClampNeg))) (by decide +kernel) (by decide +kernel) ⟨⟨by decide +kernel, by decide +kernel, by decide +kernel, rfl, rfl, Nat.le_of_ble_eq_true rfl⟩, by decide +kernel⟩ ⟨⟨by decide +kernel, by decide +kernel, by decide +kernel, rfl, Nat.le_of_ble_eq_true rfl⟩, by decide +kernel⟩ push1 push2 dL_law_538 dL_law_562 dL_law_565 (by decide) hl.1 hq hR hP hS hc hs nxt
theorem law_c10 (C0 : lw_At p s m meth c b L xs) (hK : va_K D vwCl (tyL dA) s) (hl : lv_has ls 4 (LVW s b x3)) (hin : HI x3 L) (hq : KF[q]? = some (.inr 3)) (hR : RELx G) (hP : Rp D dA s.heap.size KF G J (RQ q) H) (hS : va_S (AA s.heap.size) s.heap H locs) (hc : cells ≤ 600000) (hs : slots ≤ 7302249) (nxt : NX p l e s m b below meth c Q cells slots ls D dA) : WW p l e s m b below meth c Q cells slots ls H locs 570 [] := by
  obtain ⟨hx, hb, hr, hml, hown, hts, hX, hbl, hlocks, hgv⟩ := id C0
  have push1 : ∀ (H : Heap) (locs : List Loc), va_S (AA s.heap.size) s.heap H locs → WW p l e s m b below meth c Q cells slots ls H locs 571 (((([] : List Value)).map (cv s.heap.size)).reverse ++ [.ref (s.heap.size + 0)]) → WW p l e s m b below meth c Q cells slots ls H locs 570 [] := fun H locs hS kk => by
    refine lv_aload_n hx hb dL_law_570 rfl (lv_at hl 2 rfl) ?_
    exact kk
  have push2 : ∀ (H : Heap) (locs : List Loc) (v : Value), va_S (AA s.heap.size) s.heap H locs → WW p l e s m b below meth c Q cells slots ls H locs 575 (((([] : List Value)).map (cv s.heap.size)).reverse ++ [.ref (s.heap.size + 58), v]) → WW p l e s m b below meth c Q cells slots ls H locs (571 + 3) [v] := fun H locs v hS kk => by
    refine lv_aload_n hx hb dL_law_574 rfl (lv_at hl 1 rfl) ?_
    exact kk
  exact both C0 hK (kx := 69) (km := 123) (as := []) same_blank (by decide +kernel) (by decide +kernel) ⟨⟨by decide +kernel, by decide +kernel, by decide +kernel, rfl, rfl, Nat.le_of_ble_eq_true rfl⟩, by decide +kernel⟩ ⟨⟨by decide +kernel, by decide +kernel, by decide +kernel, rfl, Nat.le_of_ble_eq_true rfl⟩, by decide +kernel⟩ push1 push2 dL_law_571 dL_law_575 dL_law_578 (by decide) hl.1 hq hR hP hS hc hs nxt
theorem law_c11 (C0 : lw_At p s m meth c b L xs) (hK : va_K D vwCl (tyL dA) s) (hl : lv_has ls 4 (LVW s b x3)) (hin : HI x3 L) (hq : KF[q]? = some (.inr 3)) (hR : RELx G) (hP : Rp D dA s.heap.size KF G J (RQ q) H) (hS : va_S (AA s.heap.size) s.heap H locs) (hc : cells ≤ 600000) (hs : slots ≤ 7302249) (nxt : NX p l e s m b below meth c Q cells slots ls D dA) : WW p l e s m b below meth c Q cells slots ls H locs 583 [] := by
  obtain ⟨hx, hb, hr, hml, hown, hts, hX, hbl, hlocks, hgv⟩ := id C0
  have push1 : ∀ (H : Heap) (locs : List Loc), va_S (AA s.heap.size) s.heap H locs → WW p l e s m b below meth c Q cells slots ls H locs 584 (((([] : List Value)).map (cv s.heap.size)).reverse ++ [.ref (s.heap.size + 0)]) → WW p l e s m b below meth c Q cells slots ls H locs 583 [] := fun H locs hS kk => by
    refine lv_aload_n hx hb dL_law_583 rfl (lv_at hl 2 rfl) ?_
    exact kk
  have push2 : ∀ (H : Heap) (locs : List Loc) (v : Value), va_S (AA s.heap.size) s.heap H locs → WW p l e s m b below meth c Q cells slots ls H locs 588 (((([] : List Value)).map (cv s.heap.size)).reverse ++ [.ref (s.heap.size + 58), v]) → WW p l e s m b below meth c Q cells slots ls H locs (584 + 3) [v] := fun H locs v hS kk => by
    refine lv_aload_n hx hb dL_law_587 rfl (lv_at hl 1 rfl) ?_
    exact kk
  exact both C0 hK (kx := 70) (km := 126) (as := []) same_fault (by decide +kernel) (by decide +kernel) ⟨⟨by decide +kernel, by decide +kernel, by decide +kernel, rfl, rfl, Nat.le_of_ble_eq_true rfl⟩, by decide +kernel⟩ ⟨⟨by decide +kernel, by decide +kernel, by decide +kernel, rfl, Nat.le_of_ble_eq_true rfl⟩, by decide +kernel⟩ push1 push2 dL_law_584 dL_law_588 dL_law_591 (by decide) hl.1 hq hR hP hS hc hs nxt
theorem law_c12 (C0 : lw_At p s m meth c b L xs) (hK : va_K D vwCl (tyL dA) s) (hl : lv_has ls 4 (LVW s b x3)) (hin : HI x3 L) (hq : KF[q]? = some (.inr 3)) (hR : RELx G) (hP : Rp D dA s.heap.size KF G J (RQ q) H) (hS : va_S (AA s.heap.size) s.heap H locs) (hc : cells ≤ 600000) (hs : slots ≤ 7302249) (nxt : NX p l e s m b below meth c Q cells slots ls D dA) : WW p l e s m b below meth c Q cells slots ls H locs 596 [] := by
  obtain ⟨hx, hb, hr, hml, hown, hts, hX, hbl, hlocks, hgv⟩ := id C0
  have push1 : ∀ (H : Heap) (locs : List Loc), va_S (AA s.heap.size) s.heap H locs → WW p l e s m b below meth c Q cells slots ls H locs 597 (((([] : List Value)).map (cv s.heap.size)).reverse ++ [.ref (s.heap.size + 0)]) → WW p l e s m b below meth c Q cells slots ls H locs 596 [] := fun H locs hS kk => by
    refine lv_aload_n hx hb dL_law_596 rfl (lv_at hl 2 rfl) ?_
    exact kk
  have push2 : ∀ (H : Heap) (locs : List Loc) (v : Value), va_S (AA s.heap.size) s.heap H locs → WW p l e s m b below meth c Q cells slots ls H locs 601 (((([] : List Value)).map (cv s.heap.size)).reverse ++ [.ref (s.heap.size + 58), v]) → WW p l e s m b below meth c Q cells slots ls H locs (597 + 3) [v] := fun H locs v hS kk => by
    refine lv_aload_n hx hb dL_law_600 rfl (lv_at hl 1 rfl) ?_
    exact kk
  exact both C0 hK (kx := 71) (km := 127) (as := []) same_law (by decide +kernel) (by decide +kernel) ⟨⟨by decide +kernel, by decide +kernel, by decide +kernel, rfl, rfl, Nat.le_of_ble_eq_true rfl⟩, by decide +kernel⟩ ⟨⟨by decide +kernel, by decide +kernel, by decide +kernel, rfl, Nat.le_of_ble_eq_true rfl⟩, by decide +kernel⟩ push1 push2 dL_law_597 dL_law_601 dL_law_604 (by decide) hl.1 hq hR hP hS hc hs nxt
theorem law_c13 (C0 : lw_At p s m meth c b L xs) (hK : va_K D vwCl (tyL dA) s) (hl : lv_has ls 4 (LVW s b x3)) (hin : HI x3 L) (hq : KF[q]? = some (.inr 3)) (hR : RELx G) (hP : Rp D dA s.heap.size KF G J (RQ q) H) (hS : va_S (AA s.heap.size) s.heap H locs) (hc : cells ≤ 600000) (hs : slots ≤ 7302249) (nxt : NX p l e s m b below meth c Q cells slots ls D dA) : WW p l e s m b below meth c Q cells slots ls H locs 609 [] := by
  obtain ⟨hx, hb, hr, hml, hown, hts, hX, hbl, hlocks, hgv⟩ := id C0
  have push1 : ∀ (H : Heap) (locs : List Loc), va_S (AA s.heap.size) s.heap H locs → WW p l e s m b below meth c Q cells slots ls H locs 630 (((([.int (xs (x3 + 1).toNatClampNeg), .int (xs (x3 + 2).toNatClampNeg), .int (xs (x3 + 3).toNatClampNeg), .int (xs (x3 + 4).toNatClampNeg)] : List Value)).map (cv s.heap.size)).reverse ++ [.ref (s.heap.size + 0)]) → WW p l e s m b below meth c Q cells slots ls H locs 609 [] := fun H locs hS kk => by
    refine lv_aload_n hx hb dL_law_609 rfl (lv_at hl 2 rfl) ?_
    refine push_arg C0 hl hS dL_law_610 dL_law_611 dL_law_612 dL_law_613 dL_law_614 (v := 1) (by decide) hin.1 ?_
    refine push_arg C0 hl hS dL_law_615 dL_law_616 dL_law_617 dL_law_618 dL_law_619 (v := 2) (by decide) hin.2.1 ?_
    refine push_arg C0 hl hS dL_law_620 dL_law_621 dL_law_622 dL_law_623 dL_law_624 (v := 3) (by decide) hin.2.2.1 ?_
    refine push_arg C0 hl hS dL_law_625 dL_law_626 dL_law_627 dL_law_628 dL_law_629 (v := 4) (by decide) hin.2.2.2.1 ?_
    exact kk
  have push2 : ∀ (H : Heap) (locs : List Loc) (v : Value), va_S (AA s.heap.size) s.heap H locs → WW p l e s m b below meth c Q cells slots ls H locs 654 (((([.int (xs (x3 + 1).toNatClampNeg), .int (xs (x3 + 2).toNatClampNeg), .int (xs (x3 + 3).toNatClampNeg), .int (xs (x3 + 4).toNatClampNeg)] : List Value)).map (cv s.heap.size)).reverse ++ [.ref (s.heap.size + 58), v]) → WW p l e s m b below meth c Q cells slots ls H locs (630 + 3) [v] := fun H locs v hS kk => by
    refine lv_aload_n hx hb dL_law_633 rfl (lv_at hl 1 rfl) ?_
    refine push_arg C0 hl hS dL_law_634 dL_law_635 dL_law_636 dL_law_637 dL_law_638 (v := 1) (by decide) hin.1 ?_
    refine push_arg C0 hl hS dL_law_639 dL_law_640 dL_law_641 dL_law_642 dL_law_643 (v := 2) (by decide) hin.2.1 ?_
    refine push_arg C0 hl hS dL_law_644 dL_law_645 dL_law_646 dL_law_647 dL_law_648 (v := 3) (by decide) hin.2.2.1 ?_
    refine push_arg C0 hl hS dL_law_649 dL_law_650 dL_law_651 dL_law_652 dL_law_653 (v := 4) (by decide) hin.2.2.2.1 ?_
    exact kk
  exact both C0 hK (kx := 72) (km := 134) (as := [.int (xs (x3 + 1).toNatClampNeg), .int (xs (x3 + 2).toNatClampNeg), .int (xs (x3 + 3).toNatClampNeg), .int (xs (x3 + 4).toNatClampNeg)]) (same_search (xs (x3 + 1).toNatClampNeg) (xs (x3 + 2).toNatClampNeg) (xs (x3 + 3).toNatClampNeg) (xs (x3 + 4).toNatClampNeg)) (by decide +kernel) (by decide +kernel) ⟨⟨by decide +kernel, by decide +kernel, by decide +kernel, rfl, rfl, Nat.le_of_ble_eq_true rfl⟩, by decide +kernel⟩ ⟨⟨by decide +kernel, by decide +kernel, by decide +kernel, rfl, Nat.le_of_ble_eq_true rfl⟩, by decide +kernel⟩ push1 push2 dL_law_630 dL_law_654 dL_law_657 (by decide) hl.1 hq hR hP hS hc hs nxt
end LAWK2
