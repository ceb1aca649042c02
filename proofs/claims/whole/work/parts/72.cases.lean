set_option maxHeartbeats 4000000 in
set_option maxRecDepth 100000 in
theorem lw_case_7 {p : Program} {l : Launch} {e : Env} {s : State} {m : MethodId} {below : List Frame} {meth : Method} {c : Code} {u : cx_U} {b L : Nat} {xs : Nat → Int32} (X : CallFix p m c bc_W_law 4 s #[Value.ref b] GW "CatchSharesLaw") (hX : va_X b L xs s s.heap) (hbl : b < s.heap.size) (hL : L ≤ 4096) {k : Nat} (hk : 8 * k + 8 ≤ L) (kk : lw_Go p l e s m below meth c u b k (k + 1) 1355) : lw_Go p l e s m below meth c u b k k 454 := by
  intro ad ad2 S sc sc2 H locs ls K B hl
  obtain ⟨v0, v01, v02, ev1⟩ := jI_R (xs (8 * k + 1))
  obtain ⟨v1, v11, v12, ev2⟩ := jI_R (xs (8 * k + 2))
  obtain ⟨h2, h21, h22, ev3⟩ := jI_R (xs (8 * k + 3))
  obtain ⟨g2, g21, g22, ev4⟩ := jI_R (xs (8 * k + 4))
  obtain ⟨v2, v21, v22, el2⟩ := jL_R ((jL h2 <<< ((jI 32).toInt64 &&& 63)) ||| (jL g2 &&& jL 4294967295))
  obtain ⟨v3, v31, v32, ev5⟩ := jI_R (xs (8 * k + 5))
  obtain ⟨v4, v41, v42, ev6⟩ := jI_R (xs (8 * k + 6))
  refine lv_aload_n X.1 X.2.1 dc_W_law_454 rfl (lv_at hl 1 rfl) ?_
  refine lv_aload_n X.1 X.2.1 dc_W_law_455 rfl (lv_at hl 0 rfl) ?_
  refine lv_iload_n X.1 X.2.1 dc_W_law_456 rfl (lv_at hl 3 rfl) ?_
  refine cx_iconst X dc_W_law_457 ?_
  refine cx_iadd X dc_W_law_458 ?_
  refine lw_sld X B hX hbl (j := 8 * k + 1) (by omega) (by omega) hL ev1 dc_W_law_459 ?_
  refine lv_aload_n X.1 X.2.1 dc_W_law_460 rfl (lv_at hl 0 rfl) ?_
  refine lv_iload_n X.1 X.2.1 dc_W_law_461 rfl (lv_at hl 3 rfl) ?_
  refine cx_iconst X dc_W_law_462 ?_
  refine cx_iadd X dc_W_law_463 ?_
  refine lw_sld X B hX hbl (j := 8 * k + 2) (by omega) (by omega) hL ev2 dc_W_law_464 ?_
  refine lv_aload_n X.1 X.2.1 dc_W_law_465 rfl (lv_at hl 0 rfl) ?_
  refine lv_iload_n X.1 X.2.1 dc_W_law_466 rfl (lv_at hl 3 rfl) ?_
  refine cx_iconst X dc_W_law_467 ?_
  refine cx_iadd X dc_W_law_468 ?_
  refine lw_sld X B hX hbl (j := 8 * k + 3) (by omega) (by omega) hL ev3 dc_W_law_469 ?_
  refine cx_i2l X h21 h22 dc_W_law_470 ?_
  refine cx_bipush X dc_W_law_471 (by decide +kernel) ?_
  refine lv_lshl X.1 X.2.1 dc_W_law_473 rfl ?_
  refine lv_aload_n X.1 X.2.1 dc_W_law_474 rfl (lv_at hl 0 rfl) ?_
  refine lv_iload_n X.1 X.2.1 dc_W_law_475 rfl (lv_at hl 3 rfl) ?_
  refine cx_iconst X dc_W_law_476 ?_
  refine cx_iadd X dc_W_law_477 ?_
  refine lw_sld X B hX hbl (j := 8 * k + 4) (by omega) (by omega) hL ev4 dc_W_law_478 ?_
  refine cx_i2l X g21 g22 dc_W_law_479 ?_
  refine cx_ldc2 (a := 4294967295) X gk_W_13 (by decide +kernel) dc_W_law_480 ?_
  refine lv_land X.1 X.2.1 dc_W_law_483 ?_
  refine lv_lor X.1 X.2.1 dc_W_law_484 ?_
  rw [el2]
  refine lv_aload_n X.1 X.2.1 dc_W_law_485 rfl (lv_at hl 0 rfl) ?_
  refine lv_iload_n X.1 X.2.1 dc_W_law_486 rfl (lv_at hl 3 rfl) ?_
  refine cx_iconst X dc_W_law_487 ?_
  refine cx_iadd X dc_W_law_488 ?_
  refine lw_sld X B hX hbl (j := 8 * k + 5) (by omega) (by omega) hL ev5 dc_W_law_489 ?_
  refine lv_aload_n X.1 X.2.1 dc_W_law_490 rfl (lv_at hl 0 rfl) ?_
  refine lv_iload_n X.1 X.2.1 dc_W_law_491 rfl (lv_at hl 3 rfl) ?_
  refine cx_bipush X dc_W_law_492 (by decide +kernel) ?_
  refine cx_iadd X dc_W_law_494 ?_
  refine lw_sld X B hX hbl (j := 8 * k + 6) (by omega) (by omega) hL ev6 dc_W_law_495 ?_
  refine lw_cC (S' := (op_land S v0 v1 v2 v3 v4)) X B kc_C_land gm_W_49 (c_C_land l u _ ad S sc K.1  v0 v1 v01 v02 v11 v12 v2 v3 v4 v21 v22 v31 v32 v41 v42) (fun w1 h => ⟨ad, sc, rfl, h⟩) rfl ⟨(Nat.le_of_ble_eq_true rfl), (Nat.le_of_ble_eq_true rfl)⟩ ⟨(by show _ ≤ 600000; omega), (by show _ ≤ 7302250; omega)⟩ rfl hl.1 (Nat.le_of_ble_eq_true rfl) dc_W_law_496 rfl (fun H locs ad1 sc1 had B => ?_)
  rw [← had] at hl
  clear had
  refine lv_aload_n X.1 X.2.1 dc_W_law_499 rfl (lv_at hl 2 rfl) ?_
  refine lv_aload_n X.1 X.2.1 dc_W_law_500 rfl (lv_at hl 0 rfl) ?_
  refine lv_iload_n X.1 X.2.1 dc_W_law_501 rfl (lv_at hl 3 rfl) ?_
  refine cx_iconst X dc_W_law_502 ?_
  refine cx_iadd X dc_W_law_503 ?_
  refine lw_sld X B hX hbl (j := 8 * k + 1) (by omega) (by omega) hL ev1 dc_W_law_504 ?_
  refine lv_aload_n X.1 X.2.1 dc_W_law_505 rfl (lv_at hl 0 rfl) ?_
  refine lv_iload_n X.1 X.2.1 dc_W_law_506 rfl (lv_at hl 3 rfl) ?_
  refine cx_iconst X dc_W_law_507 ?_
  refine cx_iadd X dc_W_law_508 ?_
  refine lw_sld X B hX hbl (j := 8 * k + 2) (by omega) (by omega) hL ev2 dc_W_law_509 ?_
  refine lv_aload_n X.1 X.2.1 dc_W_law_510 rfl (lv_at hl 0 rfl) ?_
  refine lv_iload_n X.1 X.2.1 dc_W_law_511 rfl (lv_at hl 3 rfl) ?_
  refine cx_iconst X dc_W_law_512 ?_
  refine cx_iadd X dc_W_law_513 ?_
  refine lw_sld X B hX hbl (j := 8 * k + 3) (by omega) (by omega) hL ev3 dc_W_law_514 ?_
  refine cx_i2l X h21 h22 dc_W_law_515 ?_
  refine cx_bipush X dc_W_law_516 (by decide +kernel) ?_
  refine lv_lshl X.1 X.2.1 dc_W_law_518 rfl ?_
  refine lv_aload_n X.1 X.2.1 dc_W_law_519 rfl (lv_at hl 0 rfl) ?_
  refine lv_iload_n X.1 X.2.1 dc_W_law_520 rfl (lv_at hl 3 rfl) ?_
  refine cx_iconst X dc_W_law_521 ?_
  refine cx_iadd X dc_W_law_522 ?_
  refine lw_sld X B hX hbl (j := 8 * k + 4) (by omega) (by omega) hL ev4 dc_W_law_523 ?_
  refine cx_i2l X g21 g22 dc_W_law_524 ?_
  refine cx_ldc2 (a := 4294967295) X gk_W_13 (by decide +kernel) dc_W_law_525 ?_
  refine lv_land X.1 X.2.1 dc_W_law_528 ?_
  refine lv_lor X.1 X.2.1 dc_W_law_529 ?_
  rw [el2]
  refine lv_aload_n X.1 X.2.1 dc_W_law_530 rfl (lv_at hl 0 rfl) ?_
  refine lv_iload_n X.1 X.2.1 dc_W_law_531 rfl (lv_at hl 3 rfl) ?_
  refine cx_iconst X dc_W_law_532 ?_
  refine cx_iadd X dc_W_law_533 ?_
  refine lw_sld X B hX hbl (j := 8 * k + 5) (by omega) (by omega) hL ev5 dc_W_law_534 ?_
  refine lv_aload_n X.1 X.2.1 dc_W_law_535 rfl (lv_at hl 0 rfl) ?_
  refine lv_iload_n X.1 X.2.1 dc_W_law_536 rfl (lv_at hl 3 rfl) ?_
  refine cx_bipush X dc_W_law_537 (by decide +kernel) ?_
  refine cx_iadd X dc_W_law_539 ?_
  refine lw_sld X B hX hbl (j := 8 * k + 6) (by omega) (by omega) hL ev6 dc_W_law_540 ?_
  refine lw_cM (S' := (op_land S v0 v1 v2 v3 v4)) X B kc_M_land gm_W_53 (c_M_land l u _ ad2 S sc2 K.1  v0 v1 v01 v02 v11 v12 v2 v3 v4 v21 v22 v31 v32 v41 v42) (fun w1 h => ⟨sc2, h⟩) rfl ⟨(Nat.le_of_ble_eq_true rfl), (Nat.le_of_ble_eq_true rfl)⟩ ⟨(by show _ ≤ 600000; omega), (by show _ ≤ 7302250; omega)⟩ rfl hl.1 (Nat.le_of_ble_eq_true rfl) dc_W_law_541 rfl (fun H locs sc3 B => ?_)
  refine lv_icmp_eq (tgt := 1355) X.1 X.2.1 dc_W_law_544 (by decide) (fun _ => ?_) (fun q => absurd rfl q)
  refine W.widen (k := 35 + 3 * (k + 1)) (n := 2056 + 35 * (k + 1)) (by omega) (by omega) ?_
  exact kk _ _ _ _ _ _ _ _ (K_land K v0 v1 v2 v3 v4) B hl
set_option maxHeartbeats 4000000 in
set_option maxRecDepth 100000 in
theorem lw_case_8 {p : Program} {l : Launch} {e : Env} {s : State} {m : MethodId} {below : List Frame} {meth : Method} {c : Code} {u : cx_U} {b L : Nat} {xs : Nat → Int32} (X : CallFix p m c bc_W_law 4 s #[Value.ref b] GW "CatchSharesLaw") (hX : va_X b L xs s s.heap) (hbl : b < s.heap.size) (hL : L ≤ 4096) {k : Nat} (hk : 8 * k + 8 ≤ L) (kk : lw_Go p l e s m below meth c u b k (k + 1) 1355) : lw_Go p l e s m below meth c u b k k 549 := by
  intro ad ad2 S sc sc2 H locs ls K B hl
  obtain ⟨v0, v01, v02, ev1⟩ := jI_R (xs (8 * k + 1))
  obtain ⟨v1, v11, v12, ev2⟩ := jI_R (xs (8 * k + 2))
  obtain ⟨v2, v21, v22, ev3⟩ := jI_R (xs (8 * k + 3))
  refine lv_aload_n X.1 X.2.1 dc_W_law_549 rfl (lv_at hl 1 rfl) ?_
  refine lv_aload_n X.1 X.2.1 dc_W_law_550 rfl (lv_at hl 0 rfl) ?_
  refine lv_iload_n X.1 X.2.1 dc_W_law_551 rfl (lv_at hl 3 rfl) ?_
  refine cx_iconst X dc_W_law_552 ?_
  refine cx_iadd X dc_W_law_553 ?_
  refine lw_sld X B hX hbl (j := 8 * k + 1) (by omega) (by omega) hL ev1 dc_W_law_554 ?_
  refine lv_aload_n X.1 X.2.1 dc_W_law_555 rfl (lv_at hl 0 rfl) ?_
  refine lv_iload_n X.1 X.2.1 dc_W_law_556 rfl (lv_at hl 3 rfl) ?_
  refine cx_iconst X dc_W_law_557 ?_
  refine cx_iadd X dc_W_law_558 ?_
  refine lw_sld X B hX hbl (j := 8 * k + 2) (by omega) (by omega) hL ev2 dc_W_law_559 ?_
  refine lv_aload_n X.1 X.2.1 dc_W_law_560 rfl (lv_at hl 0 rfl) ?_
  refine lv_iload_n X.1 X.2.1 dc_W_law_561 rfl (lv_at hl 3 rfl) ?_
  refine cx_iconst X dc_W_law_562 ?_
  refine cx_iadd X dc_W_law_563 ?_
  refine lw_sld X B hX hbl (j := 8 * k + 3) (by omega) (by omega) hL ev3 dc_W_law_564 ?_
  refine cx_cVN X B kc_C_left gm_W_54 (c_C_left l u ad S sc K.1  v0 v1 v01 v02 v11 v12 v2 v21 v22) lw_sC (lw_sC 0 0 _ (wC_0 u ad S sc)) rfl rfl ⟨(Nat.le_of_ble_eq_true rfl), (Nat.le_of_ble_eq_true rfl)⟩ ⟨(by show _ ≤ 600000; omega), (by show _ ≤ 7302250; omega)⟩ rfl hl.1 (Nat.le_of_ble_eq_true rfl) dc_W_law_565 rfl ?_
  refine lv_aload_n X.1 X.2.1 dc_W_law_568 rfl (lv_at hl 2 rfl) ?_
  refine lv_aload_n X.1 X.2.1 dc_W_law_569 rfl (lv_at hl 0 rfl) ?_
  refine lv_iload_n X.1 X.2.1 dc_W_law_570 rfl (lv_at hl 3 rfl) ?_
  refine cx_iconst X dc_W_law_571 ?_
  refine cx_iadd X dc_W_law_572 ?_
  refine lw_sld X B hX hbl (j := 8 * k + 1) (by omega) (by omega) hL ev1 dc_W_law_573 ?_
  refine lv_aload_n X.1 X.2.1 dc_W_law_574 rfl (lv_at hl 0 rfl) ?_
  refine lv_iload_n X.1 X.2.1 dc_W_law_575 rfl (lv_at hl 3 rfl) ?_
  refine cx_iconst X dc_W_law_576 ?_
  refine cx_iadd X dc_W_law_577 ?_
  refine lw_sld X B hX hbl (j := 8 * k + 2) (by omega) (by omega) hL ev2 dc_W_law_578 ?_
  refine lv_aload_n X.1 X.2.1 dc_W_law_579 rfl (lv_at hl 0 rfl) ?_
  refine lv_iload_n X.1 X.2.1 dc_W_law_580 rfl (lv_at hl 3 rfl) ?_
  refine cx_iconst X dc_W_law_581 ?_
  refine cx_iadd X dc_W_law_582 ?_
  refine lw_sld X B hX hbl (j := 8 * k + 3) (by omega) (by omega) hL ev3 dc_W_law_583 ?_
  refine cx_cVN X B kc_M_left gm_W_58 (c_M_left l u ad2 S sc2 K.1  v0 v1 v01 v02 v11 v12 v2 v21 v22) lw_sM (lw_sM 20 0 _ (wM_20 u ad2 S sc2)) rfl rfl ⟨(Nat.le_of_ble_eq_true rfl), (Nat.le_of_ble_eq_true rfl)⟩ ⟨(by show _ ≤ 600000; omega), (by show _ ≤ 7302250; omega)⟩ rfl hl.1 (Nat.le_of_ble_eq_true rfl) dc_W_law_584 rfl ?_
  refine cx_lcmpR_eq (tgt := 1355) X dc_W_law_587 dc_W_law_588 (by decide) (fun _ => ?_) (fun q => absurd rfl q)
  refine W.widen (k := 35 + 3 * (k + 1)) (n := 2056 + 35 * (k + 1)) (by omega) (by omega) ?_
  exact kk _ _ _ _ _ _ _ _ K B hl
set_option maxHeartbeats 4000000 in
set_option maxRecDepth 100000 in
theorem lw_case_9 {p : Program} {l : Launch} {e : Env} {s : State} {m : MethodId} {below : List Frame} {meth : Method} {c : Code} {u : cx_U} {b L : Nat} {xs : Nat → Int32} (X : CallFix p m c bc_W_law 4 s #[Value.ref b] GW "CatchSharesLaw") (hX : va_X b L xs s s.heap) (hbl : b < s.heap.size) (hL : L ≤ 4096) {k : Nat} (hk : 8 * k + 8 ≤ L) (kk : lw_Go p l e s m below meth c u b k (k + 1) 1355) : lw_Go p l e s m below meth c u b k k 593 := by
  intro ad ad2 S sc sc2 H locs ls K B hl
  obtain ⟨v0, v01, v02, ev1⟩ := jI_R (xs (8 * k + 1))
  obtain ⟨v1, v11, v12, ev2⟩ := jI_R (xs (8 * k + 2))
  obtain ⟨v2, v21, v22, ev3⟩ := jI_R (xs (8 * k + 3))
  obtain ⟨h3, h31, h32, ev4⟩ := jI_R (xs (8 * k + 4))
  obtain ⟨g3, g31, g32, ev5⟩ := jI_R (xs (8 * k + 5))
  obtain ⟨v3, v31, v32, el3⟩ := jL_R ((jL h3 <<< ((jI 32).toInt64 &&& 63)) ||| (jL g3 &&& jL 4294967295))
  refine lv_aload_n X.1 X.2.1 dc_W_law_593 rfl (lv_at hl 1 rfl) ?_
  refine lv_aload_n X.1 X.2.1 dc_W_law_594 rfl (lv_at hl 0 rfl) ?_
  refine lv_iload_n X.1 X.2.1 dc_W_law_595 rfl (lv_at hl 3 rfl) ?_
  refine cx_iconst X dc_W_law_596 ?_
  refine cx_iadd X dc_W_law_597 ?_
  refine lw_sld X B hX hbl (j := 8 * k + 1) (by omega) (by omega) hL ev1 dc_W_law_598 ?_
  refine lv_aload_n X.1 X.2.1 dc_W_law_599 rfl (lv_at hl 0 rfl) ?_
  refine lv_iload_n X.1 X.2.1 dc_W_law_600 rfl (lv_at hl 3 rfl) ?_
  refine cx_iconst X dc_W_law_601 ?_
  refine cx_iadd X dc_W_law_602 ?_
  refine lw_sld X B hX hbl (j := 8 * k + 2) (by omega) (by omega) hL ev2 dc_W_law_603 ?_
  refine lv_aload_n X.1 X.2.1 dc_W_law_604 rfl (lv_at hl 0 rfl) ?_
  refine lv_iload_n X.1 X.2.1 dc_W_law_605 rfl (lv_at hl 3 rfl) ?_
  refine cx_iconst X dc_W_law_606 ?_
  refine cx_iadd X dc_W_law_607 ?_
  refine lw_sld X B hX hbl (j := 8 * k + 3) (by omega) (by omega) hL ev3 dc_W_law_608 ?_
  refine lv_aload_n X.1 X.2.1 dc_W_law_609 rfl (lv_at hl 0 rfl) ?_
  refine lv_iload_n X.1 X.2.1 dc_W_law_610 rfl (lv_at hl 3 rfl) ?_
  refine cx_iconst X dc_W_law_611 ?_
  refine cx_iadd X dc_W_law_612 ?_
  refine lw_sld X B hX hbl (j := 8 * k + 4) (by omega) (by omega) hL ev4 dc_W_law_613 ?_
  refine cx_i2l X h31 h32 dc_W_law_614 ?_
  refine cx_bipush X dc_W_law_615 (by decide +kernel) ?_
  refine lv_lshl X.1 X.2.1 dc_W_law_617 rfl ?_
  refine lv_aload_n X.1 X.2.1 dc_W_law_618 rfl (lv_at hl 0 rfl) ?_
  refine lv_iload_n X.1 X.2.1 dc_W_law_619 rfl (lv_at hl 3 rfl) ?_
  refine cx_iconst X dc_W_law_620 ?_
  refine cx_iadd X dc_W_law_621 ?_
  refine lw_sld X B hX hbl (j := 8 * k + 5) (by omega) (by omega) hL ev5 dc_W_law_622 ?_
  refine cx_i2l X g31 g32 dc_W_law_623 ?_
  refine cx_ldc2 (a := 4294967295) X gk_W_13 (by decide +kernel) dc_W_law_624 ?_
  refine lv_land X.1 X.2.1 dc_W_law_627 ?_
  refine lv_lor X.1 X.2.1 dc_W_law_628 ?_
  rw [el3]
  refine lw_cC (S' := (op_tr S v0 v1 v2 v3)) X B kc_C_transfer gm_W_59 (c_C_transfer l u _ ad S sc K.1  v0 v1 v2 v3 v01 v02 v11 v12 v21 v22 v31 v32) (fun w1 h => ⟨ad, sc, rfl, h⟩) rfl ⟨(Nat.le_of_ble_eq_true rfl), (Nat.le_of_ble_eq_true rfl)⟩ ⟨(by show _ ≤ 600000; omega), (by show _ ≤ 7302250; omega)⟩ rfl hl.1 (Nat.le_of_ble_eq_true rfl) dc_W_law_629 rfl (fun H locs ad1 sc1 had B => ?_)
  rw [← had] at hl
  clear had
  refine lv_aload_n X.1 X.2.1 dc_W_law_632 rfl (lv_at hl 2 rfl) ?_
  refine lv_aload_n X.1 X.2.1 dc_W_law_633 rfl (lv_at hl 0 rfl) ?_
  refine lv_iload_n X.1 X.2.1 dc_W_law_634 rfl (lv_at hl 3 rfl) ?_
  refine cx_iconst X dc_W_law_635 ?_
  refine cx_iadd X dc_W_law_636 ?_
  refine lw_sld X B hX hbl (j := 8 * k + 1) (by omega) (by omega) hL ev1 dc_W_law_637 ?_
  refine lv_aload_n X.1 X.2.1 dc_W_law_638 rfl (lv_at hl 0 rfl) ?_
  refine lv_iload_n X.1 X.2.1 dc_W_law_639 rfl (lv_at hl 3 rfl) ?_
  refine cx_iconst X dc_W_law_640 ?_
  refine cx_iadd X dc_W_law_641 ?_
  refine lw_sld X B hX hbl (j := 8 * k + 2) (by omega) (by omega) hL ev2 dc_W_law_642 ?_
  refine lv_aload_n X.1 X.2.1 dc_W_law_643 rfl (lv_at hl 0 rfl) ?_
  refine lv_iload_n X.1 X.2.1 dc_W_law_644 rfl (lv_at hl 3 rfl) ?_
  refine cx_iconst X dc_W_law_645 ?_
  refine cx_iadd X dc_W_law_646 ?_
  refine lw_sld X B hX hbl (j := 8 * k + 3) (by omega) (by omega) hL ev3 dc_W_law_647 ?_
  refine lv_aload_n X.1 X.2.1 dc_W_law_648 rfl (lv_at hl 0 rfl) ?_
  refine lv_iload_n X.1 X.2.1 dc_W_law_649 rfl (lv_at hl 3 rfl) ?_
  refine cx_iconst X dc_W_law_650 ?_
  refine cx_iadd X dc_W_law_651 ?_
  refine lw_sld X B hX hbl (j := 8 * k + 4) (by omega) (by omega) hL ev4 dc_W_law_652 ?_
  refine cx_i2l X h31 h32 dc_W_law_653 ?_
  refine cx_bipush X dc_W_law_654 (by decide +kernel) ?_
  refine lv_lshl X.1 X.2.1 dc_W_law_656 rfl ?_
  refine lv_aload_n X.1 X.2.1 dc_W_law_657 rfl (lv_at hl 0 rfl) ?_
  refine lv_iload_n X.1 X.2.1 dc_W_law_658 rfl (lv_at hl 3 rfl) ?_
  refine cx_iconst X dc_W_law_659 ?_
  refine cx_iadd X dc_W_law_660 ?_
  refine lw_sld X B hX hbl (j := 8 * k + 5) (by omega) (by omega) hL ev5 dc_W_law_661 ?_
  refine cx_i2l X g31 g32 dc_W_law_662 ?_
  refine cx_ldc2 (a := 4294967295) X gk_W_13 (by decide +kernel) dc_W_law_663 ?_
  refine lv_land X.1 X.2.1 dc_W_law_666 ?_
  refine lv_lor X.1 X.2.1 dc_W_law_667 ?_
  rw [el3]
  refine lw_cM (S' := (op_tr S v0 v1 v2 v3)) X B kc_M_transfer gm_W_63 (c_M_transfer l u _ ad2 S sc2 K.1  v0 v1 v2 v3 v01 v02 v11 v12 v21 v22 v31 v32) (fun w1 h => ⟨sc2, h⟩) rfl ⟨(Nat.le_of_ble_eq_true rfl), (Nat.le_of_ble_eq_true rfl)⟩ ⟨(by show _ ≤ 600000; omega), (by show _ ≤ 7302250; omega)⟩ rfl hl.1 (Nat.le_of_ble_eq_true rfl) dc_W_law_668 rfl (fun H locs sc3 B => ?_)
  refine lv_icmp_eq (tgt := 1355) X.1 X.2.1 dc_W_law_671 (by decide) (fun _ => ?_) (fun q => absurd rfl q)
  refine W.widen (k := 35 + 3 * (k + 1)) (n := 2056 + 35 * (k + 1)) (by omega) (by omega) ?_
  exact kk _ _ _ _ _ _ _ _ (K_tr K v0 v1 v2 v3) B hl
set_option maxHeartbeats 4000000 in
set_option maxRecDepth 100000 in
theorem lw_case_10 {p : Program} {l : Launch} {e : Env} {s : State} {m : MethodId} {below : List Frame} {meth : Method} {c : Code} {u : cx_U} {b L : Nat} {xs : Nat → Int32} (X : CallFix p m c bc_W_law 4 s #[Value.ref b] GW "CatchSharesLaw") (hX : va_X b L xs s s.heap) (hbl : b < s.heap.size) (hL : L ≤ 4096) {k : Nat} (hk : 8 * k + 8 ≤ L) (kk : lw_Go p l e s m below meth c u b k (k + 1) 1355) : lw_Go p l e s m below meth c u b k k 676 := by
  intro ad ad2 S sc sc2 H locs ls K B hl
  obtain ⟨v0, v01, v02, ev1⟩ := jI_R (xs (8 * k + 1))
  obtain ⟨v1, v11, v12, ev2⟩ := jI_R (xs (8 * k + 2))
  obtain ⟨v2, v21, v22, ev3⟩ := jI_R (xs (8 * k + 3))
  obtain ⟨v3, v31, v32, ev4⟩ := jI_R (xs (8 * k + 4))
  obtain ⟨v4, v41, v42, ev5⟩ := jI_R (xs (8 * k + 5))
  obtain ⟨h5, h51, h52, ev6⟩ := jI_R (xs (8 * k + 6))
  obtain ⟨g5, g51, g52, ev7⟩ := jI_R (xs (8 * k + 7))
  obtain ⟨v5, v51, v52, el5⟩ := jL_R ((jL h5 <<< ((jI 32).toInt64 &&& 63)) ||| (jL g5 &&& jL 4294967295))
  refine lv_aload_n X.1 X.2.1 dc_W_law_676 rfl (lv_at hl 1 rfl) ?_
  refine lv_aload_n X.1 X.2.1 dc_W_law_677 rfl (lv_at hl 0 rfl) ?_
  refine lv_iload_n X.1 X.2.1 dc_W_law_678 rfl (lv_at hl 3 rfl) ?_
  refine cx_iconst X dc_W_law_679 ?_
  refine cx_iadd X dc_W_law_680 ?_
  refine lw_sld X B hX hbl (j := 8 * k + 1) (by omega) (by omega) hL ev1 dc_W_law_681 ?_
  refine lv_aload_n X.1 X.2.1 dc_W_law_682 rfl (lv_at hl 0 rfl) ?_
  refine lv_iload_n X.1 X.2.1 dc_W_law_683 rfl (lv_at hl 3 rfl) ?_
  refine cx_iconst X dc_W_law_684 ?_
  refine cx_iadd X dc_W_law_685 ?_
  refine lw_sld X B hX hbl (j := 8 * k + 2) (by omega) (by omega) hL ev2 dc_W_law_686 ?_
  refine lv_aload_n X.1 X.2.1 dc_W_law_687 rfl (lv_at hl 0 rfl) ?_
  refine lv_iload_n X.1 X.2.1 dc_W_law_688 rfl (lv_at hl 3 rfl) ?_
  refine cx_iconst X dc_W_law_689 ?_
  refine cx_iadd X dc_W_law_690 ?_
  refine lw_sld X B hX hbl (j := 8 * k + 3) (by omega) (by omega) hL ev3 dc_W_law_691 ?_
  refine lv_aload_n X.1 X.2.1 dc_W_law_692 rfl (lv_at hl 0 rfl) ?_
  refine lv_iload_n X.1 X.2.1 dc_W_law_693 rfl (lv_at hl 3 rfl) ?_
  refine cx_iconst X dc_W_law_694 ?_
  refine cx_iadd X dc_W_law_695 ?_
  refine lw_sld X B hX hbl (j := 8 * k + 4) (by omega) (by omega) hL ev4 dc_W_law_696 ?_
  refine lv_aload_n X.1 X.2.1 dc_W_law_697 rfl (lv_at hl 0 rfl) ?_
  refine lv_iload_n X.1 X.2.1 dc_W_law_698 rfl (lv_at hl 3 rfl) ?_
  refine cx_iconst X dc_W_law_699 ?_
  refine cx_iadd X dc_W_law_700 ?_
  refine lw_sld X B hX hbl (j := 8 * k + 5) (by omega) (by omega) hL ev5 dc_W_law_701 ?_
  refine lv_aload_n X.1 X.2.1 dc_W_law_702 rfl (lv_at hl 0 rfl) ?_
  refine lv_iload_n X.1 X.2.1 dc_W_law_703 rfl (lv_at hl 3 rfl) ?_
  refine cx_bipush X dc_W_law_704 (by decide +kernel) ?_
  refine cx_iadd X dc_W_law_706 ?_
  refine lw_sld X B hX hbl (j := 8 * k + 6) (by omega) (by omega) hL ev6 dc_W_law_707 ?_
  refine cx_i2l X h51 h52 dc_W_law_708 ?_
  refine cx_bipush X dc_W_law_709 (by decide +kernel) ?_
  refine lv_lshl X.1 X.2.1 dc_W_law_711 rfl ?_
  refine lv_aload_n X.1 X.2.1 dc_W_law_712 rfl (lv_at hl 0 rfl) ?_
  refine lv_iload_n X.1 X.2.1 dc_W_law_713 rfl (lv_at hl 3 rfl) ?_
  refine cx_bipush X dc_W_law_714 (by decide +kernel) ?_
  refine cx_iadd X dc_W_law_716 ?_
  refine lw_sld X B hX hbl (j := 8 * k + 7) (by omega) (by omega) hL ev7 dc_W_law_717 ?_
  refine cx_i2l X g51 g52 dc_W_law_718 ?_
  refine cx_ldc2 (a := 4294967295) X gk_W_13 (by decide +kernel) dc_W_law_719 ?_
  refine lv_land X.1 X.2.1 dc_W_law_722 ?_
  refine lv_lor X.1 X.2.1 dc_W_law_723 ?_
  rw [el5]
  refine lw_cC (S' := (op_sw S v0 v1 v2 v3 v4 v5)) X B kc_C_swap gm_W_64 (c_C_swap l u _ ad S sc K.1  v0 v1 v2 v3 v4 v5 v01 v02 v11 v12 v21 v22 v31 v32 v41 v42 v51 v52) (fun w1 h => ⟨ad, sc, rfl, h⟩) rfl ⟨(Nat.le_of_ble_eq_true rfl), (Nat.le_of_ble_eq_true rfl)⟩ ⟨(by show _ ≤ 600000; omega), (by show _ ≤ 7302250; omega)⟩ rfl hl.1 (Nat.le_of_ble_eq_true rfl) dc_W_law_724 rfl (fun H locs ad1 sc1 had B => ?_)
  rw [← had] at hl
  clear had
  refine lv_aload_n X.1 X.2.1 dc_W_law_727 rfl (lv_at hl 2 rfl) ?_
  refine lv_aload_n X.1 X.2.1 dc_W_law_728 rfl (lv_at hl 0 rfl) ?_
  refine lv_iload_n X.1 X.2.1 dc_W_law_729 rfl (lv_at hl 3 rfl) ?_
  refine cx_iconst X dc_W_law_730 ?_
  refine cx_iadd X dc_W_law_731 ?_
  refine lw_sld X B hX hbl (j := 8 * k + 1) (by omega) (by omega) hL ev1 dc_W_law_732 ?_
  refine lv_aload_n X.1 X.2.1 dc_W_law_733 rfl (lv_at hl 0 rfl) ?_
  refine lv_iload_n X.1 X.2.1 dc_W_law_734 rfl (lv_at hl 3 rfl) ?_
  refine cx_iconst X dc_W_law_735 ?_
  refine cx_iadd X dc_W_law_736 ?_
  refine lw_sld X B hX hbl (j := 8 * k + 2) (by omega) (by omega) hL ev2 dc_W_law_737 ?_
  refine lv_aload_n X.1 X.2.1 dc_W_law_738 rfl (lv_at hl 0 rfl) ?_
  refine lv_iload_n X.1 X.2.1 dc_W_law_739 rfl (lv_at hl 3 rfl) ?_
  refine cx_iconst X dc_W_law_740 ?_
  refine cx_iadd X dc_W_law_741 ?_
  refine lw_sld X B hX hbl (j := 8 * k + 3) (by omega) (by omega) hL ev3 dc_W_law_742 ?_
  refine lv_aload_n X.1 X.2.1 dc_W_law_743 rfl (lv_at hl 0 rfl) ?_
  refine lv_iload_n X.1 X.2.1 dc_W_law_744 rfl (lv_at hl 3 rfl) ?_
  refine cx_iconst X dc_W_law_745 ?_
  refine cx_iadd X dc_W_law_746 ?_
  refine lw_sld X B hX hbl (j := 8 * k + 4) (by omega) (by omega) hL ev4 dc_W_law_747 ?_
  refine lv_aload_n X.1 X.2.1 dc_W_law_748 rfl (lv_at hl 0 rfl) ?_
  refine lv_iload_n X.1 X.2.1 dc_W_law_749 rfl (lv_at hl 3 rfl) ?_
  refine cx_iconst X dc_W_law_750 ?_
  refine cx_iadd X dc_W_law_751 ?_
  refine lw_sld X B hX hbl (j := 8 * k + 5) (by omega) (by omega) hL ev5 dc_W_law_752 ?_
  refine lv_aload_n X.1 X.2.1 dc_W_law_753 rfl (lv_at hl 0 rfl) ?_
  refine lv_iload_n X.1 X.2.1 dc_W_law_754 rfl (lv_at hl 3 rfl) ?_
  refine cx_bipush X dc_W_law_755 (by decide +kernel) ?_
  refine cx_iadd X dc_W_law_757 ?_
  refine lw_sld X B hX hbl (j := 8 * k + 6) (by omega) (by omega) hL ev6 dc_W_law_758 ?_
  refine cx_i2l X h51 h52 dc_W_law_759 ?_
  refine cx_bipush X dc_W_law_760 (by decide +kernel) ?_
  refine lv_lshl X.1 X.2.1 dc_W_law_762 rfl ?_
  refine lv_aload_n X.1 X.2.1 dc_W_law_763 rfl (lv_at hl 0 rfl) ?_
  refine lv_iload_n X.1 X.2.1 dc_W_law_764 rfl (lv_at hl 3 rfl) ?_
  refine cx_bipush X dc_W_law_765 (by decide +kernel) ?_
  refine cx_iadd X dc_W_law_767 ?_
  refine lw_sld X B hX hbl (j := 8 * k + 7) (by omega) (by omega) hL ev7 dc_W_law_768 ?_
  refine cx_i2l X g51 g52 dc_W_law_769 ?_
  refine cx_ldc2 (a := 4294967295) X gk_W_13 (by decide +kernel) dc_W_law_770 ?_
  refine lv_land X.1 X.2.1 dc_W_law_773 ?_
  refine lv_lor X.1 X.2.1 dc_W_law_774 ?_
  rw [el5]
  refine lw_cM (S' := (op_sw S v0 v1 v2 v3 v4 v5)) X B kc_M_swap gm_W_68 (c_M_swap l u _ ad2 S sc2 K.1 K.2.2.2.2.1 v0 v1 v2 v3 v4 v5 v01 v02 v11 v12 v21 v22 v31 v32 v41 v42 v51 v52) (fun w1 h => ⟨sc2, h⟩) rfl ⟨(Nat.le_of_ble_eq_true rfl), (Nat.le_of_ble_eq_true rfl)⟩ ⟨(by show _ ≤ 600000; omega), (by show _ ≤ 7302250; omega)⟩ rfl hl.1 (Nat.le_of_ble_eq_true rfl) dc_W_law_775 rfl (fun H locs sc3 B => ?_)
  refine lv_icmp_eq (tgt := 1355) X.1 X.2.1 dc_W_law_778 (by decide) (fun _ => ?_) (fun q => absurd rfl q)
  refine W.widen (k := 35 + 3 * (k + 1)) (n := 2056 + 35 * (k + 1)) (by omega) (by omega) ?_
  exact kk _ _ _ _ _ _ _ _ (K_sw K v0 v1 v2 v3 v4 v5) B hl
set_option maxHeartbeats 4000000 in
set_option maxRecDepth 100000 in
theorem lw_case_11 {p : Program} {l : Launch} {e : Env} {s : State} {m : MethodId} {below : List Frame} {meth : Method} {c : Code} {u : cx_U} {b L : Nat} {xs : Nat → Int32} (X : CallFix p m c bc_W_law 4 s #[Value.ref b] GW "CatchSharesLaw") (hX : va_X b L xs s s.heap) (hbl : b < s.heap.size) (hL : L ≤ 4096) {k : Nat} (hk : 8 * k + 8 ≤ L) (kk : lw_Go p l e s m below meth c u b k (k + 1) 1355) : lw_Go p l e s m below meth c u b k k 783 := by
  intro ad ad2 S sc sc2 H locs ls K B hl
  obtain ⟨v0, v01, v02, ev1⟩ := jI_R (xs (8 * k + 1))
  obtain ⟨v1, v11, v12, ev2⟩ := jI_R (xs (8 * k + 2))
  refine lv_aload_n X.1 X.2.1 dc_W_law_783 rfl (lv_at hl 1 rfl) ?_
  refine lv_aload_n X.1 X.2.1 dc_W_law_784 rfl (lv_at hl 0 rfl) ?_
  refine lv_iload_n X.1 X.2.1 dc_W_law_785 rfl (lv_at hl 3 rfl) ?_
  refine cx_iconst X dc_W_law_786 ?_
  refine cx_iadd X dc_W_law_787 ?_
  refine lw_sld X B hX hbl (j := 8 * k + 1) (by omega) (by omega) hL ev1 dc_W_law_788 ?_
  refine lv_aload_n X.1 X.2.1 dc_W_law_789 rfl (lv_at hl 0 rfl) ?_
  refine lv_iload_n X.1 X.2.1 dc_W_law_790 rfl (lv_at hl 3 rfl) ?_
  refine cx_iconst X dc_W_law_791 ?_
  refine cx_iadd X dc_W_law_792 ?_
  refine lw_sld X B hX hbl (j := 8 * k + 2) (by omega) (by omega) hL ev2 dc_W_law_793 ?_
  refine cx_cVN X B kc_C_over gm_W_69 (c_C_over l u ad S sc K.1  v0 v1 v01 v02 v11 v12) lw_sC (lw_sC 0 0 _ (wC_0 u ad S sc)) rfl rfl ⟨(Nat.le_of_ble_eq_true rfl), (Nat.le_of_ble_eq_true rfl)⟩ ⟨(by show _ ≤ 600000; omega), (by show _ ≤ 7302250; omega)⟩ rfl hl.1 (Nat.le_of_ble_eq_true rfl) dc_W_law_794 rfl ?_
  refine lv_aload_n X.1 X.2.1 dc_W_law_797 rfl (lv_at hl 2 rfl) ?_
  refine lv_aload_n X.1 X.2.1 dc_W_law_798 rfl (lv_at hl 0 rfl) ?_
  refine lv_iload_n X.1 X.2.1 dc_W_law_799 rfl (lv_at hl 3 rfl) ?_
  refine cx_iconst X dc_W_law_800 ?_
  refine cx_iadd X dc_W_law_801 ?_
  refine lw_sld X B hX hbl (j := 8 * k + 1) (by omega) (by omega) hL ev1 dc_W_law_802 ?_
  refine lv_aload_n X.1 X.2.1 dc_W_law_803 rfl (lv_at hl 0 rfl) ?_
  refine lv_iload_n X.1 X.2.1 dc_W_law_804 rfl (lv_at hl 3 rfl) ?_
  refine cx_iconst X dc_W_law_805 ?_
  refine cx_iadd X dc_W_law_806 ?_
  refine lw_sld X B hX hbl (j := 8 * k + 2) (by omega) (by omega) hL ev2 dc_W_law_807 ?_
  refine cx_cVN X B kc_M_over gm_W_72 (c_M_over l u ad2 S sc2 K.1  v0 v1 v01 v02 v11 v12) lw_sM (lw_sM 20 0 _ (wM_20 u ad2 S sc2)) rfl rfl ⟨(Nat.le_of_ble_eq_true rfl), (Nat.le_of_ble_eq_true rfl)⟩ ⟨(by show _ ≤ 600000; omega), (by show _ ≤ 7302250; omega)⟩ rfl hl.1 (Nat.le_of_ble_eq_true rfl) dc_W_law_808 rfl ?_
  refine cx_lcmpR_eq (tgt := 1355) X dc_W_law_811 dc_W_law_812 (by decide) (fun _ => ?_) (fun q => absurd rfl q)
  refine W.widen (k := 35 + 3 * (k + 1)) (n := 2056 + 35 * (k + 1)) (by omega) (by omega) ?_
  exact kk _ _ _ _ _ _ _ _ K B hl
set_option maxHeartbeats 4000000 in
set_option maxRecDepth 100000 in
theorem lw_case_12 {p : Program} {l : Launch} {e : Env} {s : State} {m : MethodId} {below : List Frame} {meth : Method} {c : Code} {u : cx_U} {b L : Nat} {xs : Nat → Int32} (X : CallFix p m c bc_W_law 4 s #[Value.ref b] GW "CatchSharesLaw") (hX : va_X b L xs s s.heap) (hbl : b < s.heap.size) (hL : L ≤ 4096) {k : Nat} (hk : 8 * k + 8 ≤ L) (kk : lw_Go p l e s m below meth c u b k (k + 1) 1355) : lw_Go p l e s m below meth c u b k k 817 := by
  intro ad ad2 S sc sc2 H locs ls K B hl
  obtain ⟨v0, v01, v02, ev1⟩ := jI_R (xs (8 * k + 1))
  obtain ⟨v1, v11, v12, ev2⟩ := jI_R (xs (8 * k + 2))
  refine lv_aload_n X.1 X.2.1 dc_W_law_817 rfl (lv_at hl 1 rfl) ?_
  refine lv_aload_n X.1 X.2.1 dc_W_law_818 rfl (lv_at hl 0 rfl) ?_
  refine lv_iload_n X.1 X.2.1 dc_W_law_819 rfl (lv_at hl 3 rfl) ?_
  refine cx_iconst X dc_W_law_820 ?_
  refine cx_iadd X dc_W_law_821 ?_
  refine lw_sld X B hX hbl (j := 8 * k + 1) (by omega) (by omega) hL ev1 dc_W_law_822 ?_
  refine lv_aload_n X.1 X.2.1 dc_W_law_823 rfl (lv_at hl 0 rfl) ?_
  refine lv_iload_n X.1 X.2.1 dc_W_law_824 rfl (lv_at hl 3 rfl) ?_
  refine cx_iconst X dc_W_law_825 ?_
  refine cx_iadd X dc_W_law_826 ?_
  refine lw_sld X B hX hbl (j := 8 * k + 2) (by omega) (by omega) hL ev2 dc_W_law_827 ?_
  refine cx_cVN X B kc_C_carried gm_W_73 (c_C_carried l u ad S sc K.1  v0 v1 v01 v02 v11 v12) lw_sC (lw_sC 0 0 _ (wC_0 u ad S sc)) rfl rfl ⟨(Nat.le_of_ble_eq_true rfl), (Nat.le_of_ble_eq_true rfl)⟩ ⟨(by show _ ≤ 600000; omega), (by show _ ≤ 7302250; omega)⟩ rfl hl.1 (Nat.le_of_ble_eq_true rfl) dc_W_law_828 rfl ?_
  refine lv_aload_n X.1 X.2.1 dc_W_law_831 rfl (lv_at hl 2 rfl) ?_
  refine lv_aload_n X.1 X.2.1 dc_W_law_832 rfl (lv_at hl 0 rfl) ?_
  refine lv_iload_n X.1 X.2.1 dc_W_law_833 rfl (lv_at hl 3 rfl) ?_
  refine cx_iconst X dc_W_law_834 ?_
  refine cx_iadd X dc_W_law_835 ?_
  refine lw_sld X B hX hbl (j := 8 * k + 1) (by omega) (by omega) hL ev1 dc_W_law_836 ?_
  refine lv_aload_n X.1 X.2.1 dc_W_law_837 rfl (lv_at hl 0 rfl) ?_
  refine lv_iload_n X.1 X.2.1 dc_W_law_838 rfl (lv_at hl 3 rfl) ?_
  refine cx_iconst X dc_W_law_839 ?_
  refine cx_iadd X dc_W_law_840 ?_
  refine lw_sld X B hX hbl (j := 8 * k + 2) (by omega) (by omega) hL ev2 dc_W_law_841 ?_
  refine cx_cVN X B kc_M_carried gm_W_76 (c_M_carried l u ad2 S sc2 K.1  v0 v1 v01 v02 v11 v12) lw_sM (lw_sM 20 0 _ (wM_20 u ad2 S sc2)) rfl rfl ⟨(Nat.le_of_ble_eq_true rfl), (Nat.le_of_ble_eq_true rfl)⟩ ⟨(by show _ ≤ 600000; omega), (by show _ ≤ 7302250; omega)⟩ rfl hl.1 (Nat.le_of_ble_eq_true rfl) dc_W_law_842 rfl ?_
  refine cx_lcmpR_eq (tgt := 1355) X dc_W_law_845 dc_W_law_846 (by decide) (fun _ => ?_) (fun q => absurd rfl q)
  refine W.widen (k := 35 + 3 * (k + 1)) (n := 2056 + 35 * (k + 1)) (by omega) (by omega) ?_
  exact kk _ _ _ _ _ _ _ _ K B hl
set_option maxHeartbeats 4000000 in
set_option maxRecDepth 100000 in
theorem lw_case_13 {p : Program} {l : Launch} {e : Env} {s : State} {m : MethodId} {below : List Frame} {meth : Method} {c : Code} {u : cx_U} {b L : Nat} {xs : Nat → Int32} (X : CallFix p m c bc_W_law 4 s #[Value.ref b] GW "CatchSharesLaw") (hX : va_X b L xs s s.heap) (hbl : b < s.heap.size) (hL : L ≤ 4096) {k : Nat} (hk : 8 * k + 8 ≤ L) (kk : lw_Go p l e s m below meth c u b k (k + 1) 1355) : lw_Go p l e s m below meth c u b k k 851 := by
  intro ad ad2 S sc sc2 H locs ls K B hl
  obtain ⟨v0, v01, v02, ev1⟩ := jI_R (xs (8 * k + 1))
  obtain ⟨v1, v11, v12, ev2⟩ := jI_R (xs (8 * k + 2))
  refine lv_aload_n X.1 X.2.1 dc_W_law_851 rfl (lv_at hl 1 rfl) ?_
  refine lv_aload_n X.1 X.2.1 dc_W_law_852 rfl (lv_at hl 0 rfl) ?_
  refine lv_iload_n X.1 X.2.1 dc_W_law_853 rfl (lv_at hl 3 rfl) ?_
  refine cx_iconst X dc_W_law_854 ?_
  refine cx_iadd X dc_W_law_855 ?_
  refine lw_sld X B hX hbl (j := 8 * k + 1) (by omega) (by omega) hL ev1 dc_W_law_856 ?_
  refine lv_aload_n X.1 X.2.1 dc_W_law_857 rfl (lv_at hl 0 rfl) ?_
  refine lv_iload_n X.1 X.2.1 dc_W_law_858 rfl (lv_at hl 3 rfl) ?_
  refine cx_iconst X dc_W_law_859 ?_
  refine cx_iadd X dc_W_law_860 ?_
  refine lw_sld X B hX hbl (j := 8 * k + 2) (by omega) (by omega) hL ev2 dc_W_law_861 ?_
  refine lw_cC (S' := (op_pen S v0 v1)) X B kc_C_penalty gm_W_77 (c_C_penalty l u _ ad S sc K.1  v0 v1 v01 v02 v11 v12) (fun w1 h => ⟨ad, sc, rfl, h⟩) rfl ⟨(Nat.le_of_ble_eq_true rfl), (Nat.le_of_ble_eq_true rfl)⟩ ⟨(by show _ ≤ 600000; omega), (by show _ ≤ 7302250; omega)⟩ rfl hl.1 (Nat.le_of_ble_eq_true rfl) dc_W_law_862 rfl (fun H locs ad1 sc1 had B => ?_)
  rw [← had] at hl
  clear had
  refine lv_aload_n X.1 X.2.1 dc_W_law_865 rfl (lv_at hl 2 rfl) ?_
  refine lv_aload_n X.1 X.2.1 dc_W_law_866 rfl (lv_at hl 0 rfl) ?_
  refine lv_iload_n X.1 X.2.1 dc_W_law_867 rfl (lv_at hl 3 rfl) ?_
  refine cx_iconst X dc_W_law_868 ?_
  refine cx_iadd X dc_W_law_869 ?_
  refine lw_sld X B hX hbl (j := 8 * k + 1) (by omega) (by omega) hL ev1 dc_W_law_870 ?_
  refine lv_aload_n X.1 X.2.1 dc_W_law_871 rfl (lv_at hl 0 rfl) ?_
  refine lv_iload_n X.1 X.2.1 dc_W_law_872 rfl (lv_at hl 3 rfl) ?_
  refine cx_iconst X dc_W_law_873 ?_
  refine cx_iadd X dc_W_law_874 ?_
  refine lw_sld X B hX hbl (j := 8 * k + 2) (by omega) (by omega) hL ev2 dc_W_law_875 ?_
  refine lw_cM (S' := (op_pen S v0 v1)) X B kc_M_penalty gm_W_80 (c_M_penalty l u _ ad2 S sc2 K.1  v0 v1 v01 v02 v11 v12) (fun w1 h => ⟨sc2, h⟩) rfl ⟨(Nat.le_of_ble_eq_true rfl), (Nat.le_of_ble_eq_true rfl)⟩ ⟨(by show _ ≤ 600000; omega), (by show _ ≤ 7302250; omega)⟩ rfl hl.1 (Nat.le_of_ble_eq_true rfl) dc_W_law_876 rfl (fun H locs sc3 B => ?_)
  refine lv_icmp_eq (tgt := 1355) X.1 X.2.1 dc_W_law_879 (by decide) (fun _ => ?_) (fun q => absurd rfl q)
  refine W.widen (k := 35 + 3 * (k + 1)) (n := 2056 + 35 * (k + 1)) (by omega) (by omega) ?_
  exact kk _ _ _ _ _ _ _ _ (K_pen K v0 v1) B hl
