section LK8
variable {p : Program} {l : Launch} {e : Env} {s : State} {m : MethodId} {b L : Nat} {xs : Nat → Int32} {below : List Frame} {meth : Method} {c : Code} {H : Heap} {locs : List Loc} {Q : State → Prop}
variable {ls : Array Slot} {D : va_G} {cA : Nat → ClassId} {tt : Nat → Nat} {M : Mem} {t : Int}
theorem lk_8 (hLC : LC p s m c b L xs D cA tt) (hl : lv_has ls 4 [(0, .ref b), (1, .ref (s.heap.size + 0)), (2, .ref (s.heap.size + 273)), (3, .int (Int32.ofInt t))]) (ht : 0 ≤ t ∧ t + 6 ≤ L) (hH : LIS D cA tt s SS M H locs) (hr : Rel M) (K : ∀ M1 H1 locs1, Rel M1 → LIS D cA tt s SS M1 H1 locs1 → W p l e room_1 s m #[Value.ref b] below meth c H1 locs1 SS.length (tot SS) Q (F0 m 1092 ls [])) : W p l e room_1 s m #[Value.ref b] below meth c H locs SS.length (tot SS) Q (F0 m 420 ls []) := by
  obtain ⟨hx, hb, hml, hown, hC, hX, hbl, hL⟩ := id hLC
  refine lv_aload_n hx hb dl_420 rfl (lv_at hl 1 rfl) ?_
  refine lawArg (j := 1) hLC hl hH ht (by decide) dl_421 dl_422 dl_423 dl_424 dl_425 ?_
  refine lawArg (j := 2) hLC hl hH ht (by decide) dl_426 dl_427 dl_428 dl_429 dl_430 ?_
  have h2 : Two (0 + 24) 93 158 [some (vR (some 0)), some (vI ((xs (t + 1).toNat).toInt)), some (vI ((xs (t + 2).toNat).toInt)), none] [some (vR (some 273)), some (vI ((xs (t + 1).toNat).toInt)), some (vI ((xs (t + 2).toNat).toInt)), none] M := tp_say hr
  obtain ⟨n1, r1, M1, g1, n2, r2, M2, g2, z, e1, e2, hr2⟩ := h2
  subst e1
  subst e2
  show W p l e room_1 s m #[Value.ref b] below meth c H locs SS.length (tot SS) Q (F0 m 431 ls [.int (xs (t + 2).toNat), .int (xs (t + 1).toNat), .ref (s.heap.size + 0)])
  refine lawV2 (ys := [xs (t + 1).toNat, xs (t + 2).toNat]) (idx := 49) hLC hl hH g1 (by decide) rfl (k := 4) rfl (Nat.le_of_ble_eq_true rfl) s_0 o_93 (by decide) dl_431 (by decide) (fun H1 locs1 hH1 => ?_)
  refine lv_aload_n hx hb dl_434 rfl (lv_at hl 2 rfl) ?_
  refine lawArg (j := 1) hLC hl hH1 ht (by decide) dl_435 dl_436 dl_437 dl_438 dl_439 ?_
  refine lawArg (j := 2) hLC hl hH1 ht (by decide) dl_440 dl_441 dl_442 dl_443 dl_444 ?_
  show W p l e room_1 s m #[Value.ref b] below meth c H1 locs1 SS.length (tot SS) Q (F0 m 445 ls [.int (xs (t + 2).toNat), .int (xs (t + 1).toNat), .ref (s.heap.size + 273), .int (Int32.ofInt z)])
  refine lawV2 (ys := [xs (t + 1).toNat, xs (t + 2).toNat]) (idx := 53) hLC hl hH1 g2 (by decide) rfl (k := 4) rfl (Nat.le_of_ble_eq_true rfl) s_273 o_158 (by decide) dl_445 (by show 1 + 0 ≤ 8; decide) (fun H2 locs2 hH2 => ?_)
  exact lv_icmp_eq (tgt := 1092) hx hb dl_448 (by decide) (fun _ => K M2 H2 locs2 hr2 hH2) (fun q => absurd rfl q)

theorem lk_9 (hLC : LC p s m c b L xs D cA tt) (hl : lv_has ls 4 [(0, .ref b), (1, .ref (s.heap.size + 0)), (2, .ref (s.heap.size + 273)), (3, .int (Int32.ofInt t))]) (ht : 0 ≤ t ∧ t + 6 ≤ L) (hH : LIS D cA tt s SS M H locs) (hr : Rel M) (K : ∀ M1 H1 locs1, Rel M1 → LIS D cA tt s SS M1 H1 locs1 → W p l e room_1 s m #[Value.ref b] below meth c H1 locs1 SS.length (tot SS) Q (F0 m 1092 ls [])) : W p l e room_1 s m #[Value.ref b] below meth c H locs SS.length (tot SS) Q (F0 m 453 ls []) := by
  obtain ⟨hx, hb, hml, hown, hC, hX, hbl, hL⟩ := id hLC
  refine lv_aload_n hx hb dl_453 rfl (lv_at hl 1 rfl) ?_
  refine lawArg (j := 1) hLC hl hH ht (by decide) dl_454 dl_455 dl_456 dl_457 dl_458 ?_
  have h2 : Two (0 + 24) 94 160 [some (vR (some 0)), some (vI ((xs (t + 1).toNat).toInt)), none] [some (vR (some 273)), some (vI ((xs (t + 1).toNat).toInt))] M := tp_go hr
  obtain ⟨n1, r1, M1, g1, n2, r2, M2, g2, z, e1, e2, hr2⟩ := h2
  subst e1
  subst e2
  show W p l e room_1 s m #[Value.ref b] below meth c H locs SS.length (tot SS) Q (F0 m 459 ls [.int (xs (t + 1).toNat), .ref (s.heap.size + 0)])
  refine lawV2 (ys := [xs (t + 1).toNat]) (idx := 54) hLC hl hH g1 (by decide) rfl (k := 3) rfl (Nat.le_of_ble_eq_true rfl) s_0 o_94 (by decide) dl_459 (by decide) (fun H1 locs1 hH1 => ?_)
  refine lv_aload_n hx hb dl_462 rfl (lv_at hl 2 rfl) ?_
  refine lawArg (j := 1) hLC hl hH1 ht (by decide) dl_463 dl_464 dl_465 dl_466 dl_467 ?_
  show W p l e room_1 s m #[Value.ref b] below meth c H1 locs1 SS.length (tot SS) Q (F0 m 468 ls [.int (xs (t + 1).toNat), .ref (s.heap.size + 273), .int (Int32.ofInt z)])
  refine lawV2 (ys := [xs (t + 1).toNat]) (idx := 57) hLC hl hH1 g2 (by decide) rfl (k := 2) rfl (Nat.le_of_ble_eq_true rfl) s_273 o_160 (by decide) dl_468 (by show 1 + 0 ≤ 8; decide) (fun H2 locs2 hH2 => ?_)
  exact lv_icmp_eq (tgt := 1092) hx hb dl_471 (by decide) (fun _ => K M2 H2 locs2 hr2 hH2) (fun q => absurd rfl q)

theorem lk_10 (hLC : LC p s m c b L xs D cA tt) (hl : lv_has ls 4 [(0, .ref b), (1, .ref (s.heap.size + 0)), (2, .ref (s.heap.size + 273)), (3, .int (Int32.ofInt t))]) (ht : 0 ≤ t ∧ t + 6 ≤ L) (hH : LIS D cA tt s SS M H locs) (hr : Rel M) (K : ∀ M1 H1 locs1, Rel M1 → LIS D cA tt s SS M1 H1 locs1 → W p l e room_1 s m #[Value.ref b] below meth c H1 locs1 SS.length (tot SS) Q (F0 m 1092 ls [])) : W p l e room_1 s m #[Value.ref b] below meth c H locs SS.length (tot SS) Q (F0 m 476 ls []) := by
  obtain ⟨hx, hb, hml, hown, hC, hX, hbl, hL⟩ := id hLC
  refine lv_aload_n hx hb dl_476 rfl (lv_at hl 1 rfl) ?_
  refine lawArg (j := 1) hLC hl hH ht (by decide) dl_477 dl_478 dl_479 dl_480 dl_481 ?_
  refine lawArg (j := 2) hLC hl hH ht (by decide) dl_482 dl_483 dl_484 dl_485 dl_486 ?_
  have h2 : Two (0 + 24) 95 161 [some (vR (some 0)), some (vI ((xs (t + 1).toNat).toInt)), some (vI ((xs (t + 2).toNat).toInt)), none] [some (vR (some 273)), some (vI ((xs (t + 1).toNat).toInt)), some (vI ((xs (t + 2).toNat).toInt)), none] M := tp_hatch hr
  obtain ⟨n1, r1, M1, g1, n2, r2, M2, g2, z, e1, e2, hr2⟩ := h2
  subst e1
  subst e2
  show W p l e room_1 s m #[Value.ref b] below meth c H locs SS.length (tot SS) Q (F0 m 487 ls [.int (xs (t + 2).toNat), .int (xs (t + 1).toNat), .ref (s.heap.size + 0)])
  refine lawV2 (ys := [xs (t + 1).toNat, xs (t + 2).toNat]) (idx := 58) hLC hl hH g1 (by decide) rfl (k := 4) rfl (Nat.le_of_ble_eq_true rfl) s_0 o_95 (by decide) dl_487 (by decide) (fun H1 locs1 hH1 => ?_)
  refine lv_aload_n hx hb dl_490 rfl (lv_at hl 2 rfl) ?_
  refine lawArg (j := 1) hLC hl hH1 ht (by decide) dl_491 dl_492 dl_493 dl_494 dl_495 ?_
  refine lawArg (j := 2) hLC hl hH1 ht (by decide) dl_496 dl_497 dl_498 dl_499 dl_500 ?_
  show W p l e room_1 s m #[Value.ref b] below meth c H1 locs1 SS.length (tot SS) Q (F0 m 501 ls [.int (xs (t + 2).toNat), .int (xs (t + 1).toNat), .ref (s.heap.size + 273), .int (Int32.ofInt z)])
  refine lawV2 (ys := [xs (t + 1).toNat, xs (t + 2).toNat]) (idx := 61) hLC hl hH1 g2 (by decide) rfl (k := 4) rfl (Nat.le_of_ble_eq_true rfl) s_273 o_161 (by decide) dl_501 (by show 1 + 0 ≤ 8; decide) (fun H2 locs2 hH2 => ?_)
  exact lv_icmp_eq (tgt := 1092) hx hb dl_504 (by decide) (fun _ => K M2 H2 locs2 hr2 hH2) (fun q => absurd rfl q)

theorem lk_11 (hLC : LC p s m c b L xs D cA tt) (hl : lv_has ls 4 [(0, .ref b), (1, .ref (s.heap.size + 0)), (2, .ref (s.heap.size + 273)), (3, .int (Int32.ofInt t))]) (ht : 0 ≤ t ∧ t + 6 ≤ L) (hH : LIS D cA tt s SS M H locs) (hr : Rel M) (K : ∀ M1 H1 locs1, Rel M1 → LIS D cA tt s SS M1 H1 locs1 → W p l e room_1 s m #[Value.ref b] below meth c H1 locs1 SS.length (tot SS) Q (F0 m 1092 ls [])) : W p l e room_1 s m #[Value.ref b] below meth c H locs SS.length (tot SS) Q (F0 m 509 ls []) := by
  obtain ⟨hx, hb, hml, hown, hC, hX, hbl, hL⟩ := id hLC
  refine lv_aload_n hx hb dl_509 rfl (lv_at hl 1 rfl) ?_
  have h2 : Two (0 + 24) 96 162 [some (vR (some 0))] [some (vR (some 273)), none] M := tp_undo hr
  obtain ⟨n1, r1, M1, g1, n2, r2, M2, g2, z, e1, e2, hr2⟩ := h2
  subst e1
  subst e2
  show W p l e room_1 s m #[Value.ref b] below meth c H locs SS.length (tot SS) Q (F0 m 510 ls [.ref (s.heap.size + 0)])
  refine lawV2 (ys := []) (idx := 62) hLC hl hH g1 (by decide) rfl (k := 1) rfl (Nat.le_of_ble_eq_true rfl) s_0 o_96 (by decide) dl_510 (by decide) (fun H1 locs1 hH1 => ?_)
  refine lv_aload_n hx hb dl_513 rfl (lv_at hl 2 rfl) ?_
  show W p l e room_1 s m #[Value.ref b] below meth c H1 locs1 SS.length (tot SS) Q (F0 m 514 ls [.ref (s.heap.size + 273), .int (Int32.ofInt z)])
  refine lawV2 (ys := []) (idx := 65) hLC hl hH1 g2 (by decide) rfl (k := 2) rfl (Nat.le_of_ble_eq_true rfl) s_273 o_162 (by decide) dl_514 (by show 1 + 0 ≤ 8; decide) (fun H2 locs2 hH2 => ?_)
  exact lv_icmp_eq (tgt := 1092) hx hb dl_517 (by decide) (fun _ => K M2 H2 locs2 hr2 hH2) (fun q => absurd rfl q)

theorem lk_12 (hLC : LC p s m c b L xs D cA tt) (hl : lv_has ls 4 [(0, .ref b), (1, .ref (s.heap.size + 0)), (2, .ref (s.heap.size + 273)), (3, .int (Int32.ofInt t))]) (ht : 0 ≤ t ∧ t + 6 ≤ L) (hH : LIS D cA tt s SS M H locs) (hr : Rel M) (K : ∀ M1 H1 locs1, Rel M1 → LIS D cA tt s SS M1 H1 locs1 → W p l e room_1 s m #[Value.ref b] below meth c H1 locs1 SS.length (tot SS) Q (F0 m 1092 ls [])) : W p l e room_1 s m #[Value.ref b] below meth c H locs SS.length (tot SS) Q (F0 m 522 ls []) := by
  obtain ⟨hx, hb, hml, hown, hC, hX, hbl, hL⟩ := id hLC
  refine lv_aload_n hx hb dl_522 rfl (lv_at hl 1 rfl) ?_
  refine lawArg (j := 1) hLC hl hH ht (by decide) dl_523 dl_524 dl_525 dl_526 dl_527 ?_
  refine lawArg (j := 2) hLC hl hH ht (by decide) dl_528 dl_529 dl_530 dl_531 dl_532 ?_
  have h2 : Two (0 + 24) 97 163 [some (vR (some 0)), some (vI ((xs (t + 1).toNat).toInt)), some (vI ((xs (t + 2).toNat).toInt))] [some (vR (some 273)), some (vI ((xs (t + 1).toNat).toInt)), some (vI ((xs (t + 2).toNat).toInt))] M := tp_person hr
  obtain ⟨n1, r1, M1, g1, n2, r2, M2, g2, z, e1, e2, hr2⟩ := h2
  subst e1
  subst e2
  show W p l e room_1 s m #[Value.ref b] below meth c H locs SS.length (tot SS) Q (F0 m 533 ls [.int (xs (t + 2).toNat), .int (xs (t + 1).toNat), .ref (s.heap.size + 0)])
  refine lawV2 (ys := [xs (t + 1).toNat, xs (t + 2).toNat]) (idx := 66) hLC hl hH g1 (by decide) rfl (k := 3) rfl (Nat.le_of_ble_eq_true rfl) s_0 o_97 (by decide) dl_533 (by decide) (fun H1 locs1 hH1 => ?_)
  refine lv_aload_n hx hb dl_536 rfl (lv_at hl 2 rfl) ?_
  refine lawArg (j := 1) hLC hl hH1 ht (by decide) dl_537 dl_538 dl_539 dl_540 dl_541 ?_
  refine lawArg (j := 2) hLC hl hH1 ht (by decide) dl_542 dl_543 dl_544 dl_545 dl_546 ?_
  show W p l e room_1 s m #[Value.ref b] below meth c H1 locs1 SS.length (tot SS) Q (F0 m 547 ls [.int (xs (t + 2).toNat), .int (xs (t + 1).toNat), .ref (s.heap.size + 273), .int (Int32.ofInt z)])
  refine lawV2 (ys := [xs (t + 1).toNat, xs (t + 2).toNat]) (idx := 69) hLC hl hH1 g2 (by decide) rfl (k := 3) rfl (Nat.le_of_ble_eq_true rfl) s_273 o_163 (by decide) dl_547 (by show 1 + 0 ≤ 8; decide) (fun H2 locs2 hH2 => ?_)
  exact lv_icmp_eq (tgt := 1092) hx hb dl_550 (by decide) (fun _ => K M2 H2 locs2 hr2 hH2) (fun q => absurd rfl q)

theorem lk_13 (hLC : LC p s m c b L xs D cA tt) (hl : lv_has ls 4 [(0, .ref b), (1, .ref (s.heap.size + 0)), (2, .ref (s.heap.size + 273)), (3, .int (Int32.ofInt t))]) (ht : 0 ≤ t ∧ t + 6 ≤ L) (hH : LIS D cA tt s SS M H locs) (hr : Rel M) (K : ∀ M1 H1 locs1, Rel M1 → LIS D cA tt s SS M1 H1 locs1 → W p l e room_1 s m #[Value.ref b] below meth c H1 locs1 SS.length (tot SS) Q (F0 m 1092 ls [])) : W p l e room_1 s m #[Value.ref b] below meth c H locs SS.length (tot SS) Q (F0 m 555 ls []) := by
  obtain ⟨hx, hb, hml, hown, hC, hX, hbl, hL⟩ := id hLC
  refine lv_aload_n hx hb dl_555 rfl (lv_at hl 1 rfl) ?_
  refine lawArg (j := 1) hLC hl hH ht (by decide) dl_556 dl_557 dl_558 dl_559 dl_560 ?_
  have h2 : Two (0 + 24) 98 164 [some (vR (some 0)), some (vI ((xs (t + 1).toNat).toInt))] [some (vR (some 273)), some (vI ((xs (t + 1).toNat).toInt))] M := tp_place hr
  obtain ⟨n1, r1, M1, g1, n2, r2, M2, g2, z, e1, e2, hr2⟩ := h2
  subst e1
  subst e2
  show W p l e room_1 s m #[Value.ref b] below meth c H locs SS.length (tot SS) Q (F0 m 561 ls [.int (xs (t + 1).toNat), .ref (s.heap.size + 0)])
  refine lawV2 (ys := [xs (t + 1).toNat]) (idx := 70) hLC hl hH g1 (by decide) rfl (k := 2) rfl (Nat.le_of_ble_eq_true rfl) s_0 o_98 (by decide) dl_561 (by decide) (fun H1 locs1 hH1 => ?_)
  refine lv_aload_n hx hb dl_564 rfl (lv_at hl 2 rfl) ?_
  refine lawArg (j := 1) hLC hl hH1 ht (by decide) dl_565 dl_566 dl_567 dl_568 dl_569 ?_
  show W p l e room_1 s m #[Value.ref b] below meth c H1 locs1 SS.length (tot SS) Q (F0 m 570 ls [.int (xs (t + 1).toNat), .ref (s.heap.size + 273), .int (Int32.ofInt z)])
  refine lawV2 (ys := [xs (t + 1).toNat]) (idx := 73) hLC hl hH1 g2 (by decide) rfl (k := 2) rfl (Nat.le_of_ble_eq_true rfl) s_273 o_164 (by decide) dl_570 (by show 1 + 0 ≤ 8; decide) (fun H2 locs2 hH2 => ?_)
  exact lv_icmp_eq (tgt := 1092) hx hb dl_573 (by decide) (fun _ => K M2 H2 locs2 hr2 hH2) (fun q => absurd rfl q)

theorem lk_14 (hLC : LC p s m c b L xs D cA tt) (hl : lv_has ls 4 [(0, .ref b), (1, .ref (s.heap.size + 0)), (2, .ref (s.heap.size + 273)), (3, .int (Int32.ofInt t))]) (ht : 0 ≤ t ∧ t + 6 ≤ L) (hH : LIS D cA tt s SS M H locs) (hr : Rel M) (K : ∀ M1 H1 locs1, Rel M1 → LIS D cA tt s SS M1 H1 locs1 → W p l e room_1 s m #[Value.ref b] below meth c H1 locs1 SS.length (tot SS) Q (F0 m 1092 ls [])) : W p l e room_1 s m #[Value.ref b] below meth c H locs SS.length (tot SS) Q (F0 m 578 ls []) := by
  obtain ⟨hx, hb, hml, hown, hC, hX, hbl, hL⟩ := id hLC
  refine lv_aload_n hx hb dl_578 rfl (lv_at hl 1 rfl) ?_
  refine lawArg (j := 1) hLC hl hH ht (by decide) dl_579 dl_580 dl_581 dl_582 dl_583 ?_
  refine lawArg (j := 2) hLC hl hH ht (by decide) dl_584 dl_585 dl_586 dl_587 dl_588 ?_
  have h2 : Two (0 + 24) 99 169 [some (vR (some 0)), some (vI ((xs (t + 1).toNat).toInt)), some (vI ((xs (t + 2).toNat).toInt))] [some (vR (some 273)), some (vI ((xs (t + 1).toNat).toInt)), some (vI ((xs (t + 2).toNat).toInt)), none] M := tp_ahead hr
  obtain ⟨n1, r1, M1, g1, n2, r2, M2, g2, z, e1, e2, hr2⟩ := h2
  subst e1
  subst e2
  show W p l e room_1 s m #[Value.ref b] below meth c H locs SS.length (tot SS) Q (F0 m 589 ls [.int (xs (t + 2).toNat), .int (xs (t + 1).toNat), .ref (s.heap.size + 0)])
  refine lawV2 (ys := [xs (t + 1).toNat, xs (t + 2).toNat]) (idx := 74) hLC hl hH g1 (by decide) rfl (k := 3) rfl (Nat.le_of_ble_eq_true rfl) s_0 o_99 (by decide) dl_589 (by decide) (fun H1 locs1 hH1 => ?_)
  refine lv_aload_n hx hb dl_592 rfl (lv_at hl 2 rfl) ?_
  refine lawArg (j := 1) hLC hl hH1 ht (by decide) dl_593 dl_594 dl_595 dl_596 dl_597 ?_
  refine lawArg (j := 2) hLC hl hH1 ht (by decide) dl_598 dl_599 dl_600 dl_601 dl_602 ?_
  show W p l e room_1 s m #[Value.ref b] below meth c H1 locs1 SS.length (tot SS) Q (F0 m 603 ls [.int (xs (t + 2).toNat), .int (xs (t + 1).toNat), .ref (s.heap.size + 273), .int (Int32.ofInt z)])
  refine lawV2 (ys := [xs (t + 1).toNat, xs (t + 2).toNat]) (idx := 77) hLC hl hH1 g2 (by decide) rfl (k := 4) rfl (Nat.le_of_ble_eq_true rfl) s_273 o_169 (by decide) dl_603 (by show 1 + 0 ≤ 8; decide) (fun H2 locs2 hH2 => ?_)
  exact lv_icmp_eq (tgt := 1092) hx hb dl_606 (by decide) (fun _ => K M2 H2 locs2 hr2 hH2) (fun q => absurd rfl q)

theorem lk_15 (hLC : LC p s m c b L xs D cA tt) (hl : lv_has ls 4 [(0, .ref b), (1, .ref (s.heap.size + 0)), (2, .ref (s.heap.size + 273)), (3, .int (Int32.ofInt t))]) (ht : 0 ≤ t ∧ t + 6 ≤ L) (hH : LIS D cA tt s SS M H locs) (hr : Rel M) (K : ∀ M1 H1 locs1, Rel M1 → LIS D cA tt s SS M1 H1 locs1 → W p l e room_1 s m #[Value.ref b] below meth c H1 locs1 SS.length (tot SS) Q (F0 m 1092 ls [])) : W p l e room_1 s m #[Value.ref b] below meth c H locs SS.length (tot SS) Q (F0 m 611 ls []) := by
  obtain ⟨hx, hb, hml, hown, hC, hX, hbl, hL⟩ := id hLC
  refine lv_aload_n hx hb dl_611 rfl (lv_at hl 1 rfl) ?_
  refine lawArg (j := 1) hLC hl hH ht (by decide) dl_612 dl_613 dl_614 dl_615 dl_616 ?_
  refine lawArg (j := 2) hLC hl hH ht (by decide) dl_617 dl_618 dl_619 dl_620 dl_621 ?_
  have h2 : Two (0 + 24) 100 170 [some (vR (some 0)), some (vI ((xs (t + 1).toNat).toInt)), some (vI ((xs (t + 2).toNat).toInt))] [some (vR (some 273)), some (vI ((xs (t + 1).toNat).toInt)), some (vI ((xs (t + 2).toNat).toInt)), none] M := tp_order hr
  obtain ⟨n1, r1, M1, g1, n2, r2, M2, g2, z, e1, e2, hr2⟩ := h2
  subst e1
  subst e2
  show W p l e room_1 s m #[Value.ref b] below meth c H locs SS.length (tot SS) Q (F0 m 622 ls [.int (xs (t + 2).toNat), .int (xs (t + 1).toNat), .ref (s.heap.size + 0)])
  refine lawV2 (ys := [xs (t + 1).toNat, xs (t + 2).toNat]) (idx := 78) hLC hl hH g1 (by decide) rfl (k := 3) rfl (Nat.le_of_ble_eq_true rfl) s_0 o_100 (by decide) dl_622 (by decide) (fun H1 locs1 hH1 => ?_)
  refine lv_aload_n hx hb dl_625 rfl (lv_at hl 2 rfl) ?_
  refine lawArg (j := 1) hLC hl hH1 ht (by decide) dl_626 dl_627 dl_628 dl_629 dl_630 ?_
  refine lawArg (j := 2) hLC hl hH1 ht (by decide) dl_631 dl_632 dl_633 dl_634 dl_635 ?_
  show W p l e room_1 s m #[Value.ref b] below meth c H1 locs1 SS.length (tot SS) Q (F0 m 636 ls [.int (xs (t + 2).toNat), .int (xs (t + 1).toNat), .ref (s.heap.size + 273), .int (Int32.ofInt z)])
  refine lawV2 (ys := [xs (t + 1).toNat, xs (t + 2).toNat]) (idx := 81) hLC hl hH1 g2 (by decide) rfl (k := 4) rfl (Nat.le_of_ble_eq_true rfl) s_273 o_170 (by decide) dl_636 (by show 1 + 0 ≤ 8; decide) (fun H2 locs2 hH2 => ?_)
  exact lv_icmp_eq (tgt := 1092) hx hb dl_639 (by decide) (fun _ => K M2 H2 locs2 hr2 hH2) (fun q => absurd rfl q)

end LK8