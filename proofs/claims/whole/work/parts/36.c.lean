section LAW
variable {p : Program} {l : Launch} {e : Env} {s : State} {m : MethodId} {below : List Frame} {meth : Method} {c : Code} {b L : Nat} {xs : Nat → Int32} {Q : State → Prop}
variable {H : Heap} {locs : List Loc} {cells slots : Nat} {ls : Array Slot} {D : va_G} {I C Q9 : ClassId} {y0 a0 i : Nat}
set_option maxHeartbeats 4000000 in
set_option maxRecDepth 100000 in
theorem law_k_wordAt (F : lwF p s m c b L xs D I C Q9) (hL : L ≤ 3072) (hi : i + 6 ≤ L) (hI : uI D I C Q9 y0 a0 (lA s) H) (hS : va_S (lA s) s.heap H locs) (hl : lv_has ls 4 (lvs b y0 a0 i)) (hcs : cells + 13 ≤ 600000 ∧ slots + 1166 ≤ 7302249) (kk : ∀ (H1 : Heap) (locs1 : List Loc), uI D I C Q9 y0 a0 (lA s) H1 → va_S (lA s) s.heap H1 locs1 → W p l e room_1 s m #[Value.ref b] below meth c H1 locs1 (cells + 13) (slots + 1166) Q (F0 m 688 ls [])) : W p l e room_1 s m #[Value.ref b] below meth c H locs cells slots Q (F0 m 359 ls []) := by
  obtain ⟨mm, x, hR, hP, hD⟩ := hI
  refine lv_aload_n F.1 F.2.1 dL_law_359 rfl (lv_at hl 2 rfl) ?_
  refine law_ld F hL hi hS hl 1 (by omega) dL_law_360 dL_law_361 dL_law_362 rfl dL_law_363 dL_law_364 ?_
  refine law_ld F hL hi hS hl 2 (by omega) dL_law_365 dL_law_366 dL_law_367 rfl dL_law_368 dL_law_369 ?_
  refine law_c8 F hS hl.1 hP hD (uQ_wordAt l D I C Q9 y0 a0 _ _ mm x hR) (cwV 2 F.2.2.2.2.1 gL_law_X8_wordAt rfl rfl rfl (by decide +kernel) ⟨Nat.le_of_ble_eq_true rfl, Nat.le_of_ble_eq_true rfl⟩) rfl dL_law_370 rfl hcs (fun H locs r mm1 x1 h9 hR hP hD hS => ?_)
  refine lv_aload_n F.1 F.2.1 dL_law_373 rfl (lv_at hl 1 rfl) ?_
  refine law_ld F hL hi hS hl 1 (by omega) dL_law_374 dL_law_375 dL_law_376 rfl dL_law_377 dL_law_378 ?_
  refine law_ld F hL hi hS hl 2 (by omega) dL_law_379 dL_law_380 dL_law_381 rfl dL_law_382 dL_law_383 ?_
  refine law_c9 F hS hl.1 hP hD h9 hR (cwV 2 F.2.2.2.2.1 gL_law_X9_wordAt rfl rfl rfl (by decide +kernel) ⟨Nat.le_of_ble_eq_true rfl, Nat.le_of_ble_eq_true rfl⟩) rfl dL_law_384 rfl hcs (fun H locs hI hS => ?_)
  exact lv_icmp_eq (tgt := 688) F.1 F.2.1 dL_law_387 (by decide) (fun _ => kk H locs hI hS) (fun h => absurd rfl h)
set_option maxHeartbeats 4000000 in
set_option maxRecDepth 100000 in
theorem law_k_eventOf (F : lwF p s m c b L xs D I C Q9) (hL : L ≤ 3072) (hi : i + 6 ≤ L) (hI : uI D I C Q9 y0 a0 (lA s) H) (hS : va_S (lA s) s.heap H locs) (hl : lv_has ls 4 (lvs b y0 a0 i)) (hcs : cells + 13 ≤ 600000 ∧ slots + 1166 ≤ 7302249) (kk : ∀ (H1 : Heap) (locs1 : List Loc), uI D I C Q9 y0 a0 (lA s) H1 → va_S (lA s) s.heap H1 locs1 → W p l e room_1 s m #[Value.ref b] below meth c H1 locs1 (cells + 13) (slots + 1166) Q (F0 m 688 ls [])) : W p l e room_1 s m #[Value.ref b] below meth c H locs cells slots Q (F0 m 392 ls []) := by
  obtain ⟨mm, x, hR, hP, hD⟩ := hI
  refine lv_aload_n F.1 F.2.1 dL_law_392 rfl (lv_at hl 2 rfl) ?_
  refine law_ld F hL hi hS hl 1 (by omega) dL_law_393 dL_law_394 dL_law_395 rfl dL_law_396 dL_law_397 ?_
  refine law_ld F hL hi hS hl 2 (by omega) dL_law_398 dL_law_399 dL_law_400 rfl dL_law_401 dL_law_402 ?_
  refine law_c8 F hS hl.1 hP hD (uQ_eventOf l D I C Q9 y0 a0 _ _ mm x hR) (cwV 2 F.2.2.2.2.1 gL_law_X8_eventOf rfl rfl rfl (by decide +kernel) ⟨Nat.le_of_ble_eq_true rfl, Nat.le_of_ble_eq_true rfl⟩) rfl dL_law_403 rfl hcs (fun H locs r mm1 x1 h9 hR hP hD hS => ?_)
  refine lv_aload_n F.1 F.2.1 dL_law_406 rfl (lv_at hl 1 rfl) ?_
  refine law_ld F hL hi hS hl 1 (by omega) dL_law_407 dL_law_408 dL_law_409 rfl dL_law_410 dL_law_411 ?_
  refine law_ld F hL hi hS hl 2 (by omega) dL_law_412 dL_law_413 dL_law_414 rfl dL_law_415 dL_law_416 ?_
  refine law_c9 F hS hl.1 hP hD h9 hR (cwV 2 F.2.2.2.2.1 gL_law_X9_eventOf rfl rfl rfl (by decide +kernel) ⟨Nat.le_of_ble_eq_true rfl, Nat.le_of_ble_eq_true rfl⟩) rfl dL_law_417 rfl hcs (fun H locs hI hS => ?_)
  exact lv_icmp_eq (tgt := 688) F.1 F.2.1 dL_law_420 (by decide) (fun _ => kk H locs hI hS) (fun h => absurd rfl h)
set_option maxHeartbeats 4000000 in
set_option maxRecDepth 100000 in
theorem law_k_judge (F : lwF p s m c b L xs D I C Q9) (hL : L ≤ 3072) (hi : i + 6 ≤ L) (hI : uI D I C Q9 y0 a0 (lA s) H) (hS : va_S (lA s) s.heap H locs) (hl : lv_has ls 4 (lvs b y0 a0 i)) (hcs : cells + 13 ≤ 600000 ∧ slots + 1166 ≤ 7302249) (kk : ∀ (H1 : Heap) (locs1 : List Loc), uI D I C Q9 y0 a0 (lA s) H1 → va_S (lA s) s.heap H1 locs1 → W p l e room_1 s m #[Value.ref b] below meth c H1 locs1 (cells + 13) (slots + 1166) Q (F0 m 688 ls [])) : W p l e room_1 s m #[Value.ref b] below meth c H locs cells slots Q (F0 m 425 ls []) := by
  obtain ⟨mm, x, hR, hP, hD⟩ := hI
  refine lv_aload_n F.1 F.2.1 dL_law_425 rfl (lv_at hl 2 rfl) ?_
  refine law_ld F hL hi hS hl 1 (by omega) dL_law_426 dL_law_427 dL_law_428 rfl dL_law_429 dL_law_430 ?_
  refine law_ld F hL hi hS hl 2 (by omega) dL_law_431 dL_law_432 dL_law_433 rfl dL_law_434 dL_law_435 ?_
  refine law_ld F hL hi hS hl 3 (by omega) dL_law_436 dL_law_437 dL_law_438 rfl dL_law_439 dL_law_440 ?_
  refine law_c8 F hS hl.1 hP hD (uQ_judge l D I C Q9 y0 a0 _ _ _ mm x hR) (cwV 3 F.2.2.2.2.1 gL_law_X8_judge rfl rfl rfl (by decide +kernel) ⟨Nat.le_of_ble_eq_true rfl, Nat.le_of_ble_eq_true rfl⟩) rfl dL_law_441 rfl hcs (fun H locs r mm1 x1 h9 hR hP hD hS => ?_)
  refine lv_aload_n F.1 F.2.1 dL_law_444 rfl (lv_at hl 1 rfl) ?_
  refine law_ld F hL hi hS hl 1 (by omega) dL_law_445 dL_law_446 dL_law_447 rfl dL_law_448 dL_law_449 ?_
  refine law_ld F hL hi hS hl 2 (by omega) dL_law_450 dL_law_451 dL_law_452 rfl dL_law_453 dL_law_454 ?_
  refine law_ld F hL hi hS hl 3 (by omega) dL_law_455 dL_law_456 dL_law_457 rfl dL_law_458 dL_law_459 ?_
  refine law_c9 F hS hl.1 hP hD h9 hR (cwV 3 F.2.2.2.2.1 gL_law_X9_judge rfl rfl rfl (by decide +kernel) ⟨Nat.le_of_ble_eq_true rfl, Nat.le_of_ble_eq_true rfl⟩) rfl dL_law_460 rfl hcs (fun H locs hI hS => ?_)
  exact lv_icmp_eq (tgt := 688) F.1 F.2.1 dL_law_463 (by decide) (fun _ => kk H locs hI hS) (fun h => absurd rfl h)
set_option maxHeartbeats 4000000 in
set_option maxRecDepth 100000 in
theorem law_k_lateness (F : lwF p s m c b L xs D I C Q9) (hL : L ≤ 3072) (hi : i + 6 ≤ L) (hI : uI D I C Q9 y0 a0 (lA s) H) (hS : va_S (lA s) s.heap H locs) (hl : lv_has ls 4 (lvs b y0 a0 i)) (hcs : cells + 13 ≤ 600000 ∧ slots + 1166 ≤ 7302249) (kk : ∀ (H1 : Heap) (locs1 : List Loc), uI D I C Q9 y0 a0 (lA s) H1 → va_S (lA s) s.heap H1 locs1 → W p l e room_1 s m #[Value.ref b] below meth c H1 locs1 (cells + 13) (slots + 1166) Q (F0 m 688 ls [])) : W p l e room_1 s m #[Value.ref b] below meth c H locs cells slots Q (F0 m 468 ls []) := by
  obtain ⟨mm, x, hR, hP, hD⟩ := hI
  refine lv_aload_n F.1 F.2.1 dL_law_468 rfl (lv_at hl 2 rfl) ?_
  refine law_ld F hL hi hS hl 1 (by omega) dL_law_469 dL_law_470 dL_law_471 rfl dL_law_472 dL_law_473 ?_
  refine law_c8 F hS hl.1 hP hD (uQ_lateness l D I C Q9 y0 a0 _ mm x hR) (cwV 1 F.2.2.2.2.1 gL_law_X8_lateness rfl rfl rfl (by decide +kernel) ⟨Nat.le_of_ble_eq_true rfl, Nat.le_of_ble_eq_true rfl⟩) rfl dL_law_474 rfl hcs (fun H locs r mm1 x1 h9 hR hP hD hS => ?_)
  refine lv_aload_n F.1 F.2.1 dL_law_477 rfl (lv_at hl 1 rfl) ?_
  refine law_ld F hL hi hS hl 1 (by omega) dL_law_478 dL_law_479 dL_law_480 rfl dL_law_481 dL_law_482 ?_
  refine law_c9 F hS hl.1 hP hD h9 hR (cwV 1 F.2.2.2.2.1 gL_law_X9_lateness rfl rfl rfl (by decide +kernel) ⟨Nat.le_of_ble_eq_true rfl, Nat.le_of_ble_eq_true rfl⟩) rfl dL_law_483 rfl hcs (fun H locs hI hS => ?_)
  exact lv_icmp_eq (tgt := 688) F.1 F.2.1 dL_law_486 (by decide) (fun _ => kk H locs hI hS) (fun h => absurd rfl h)
set_option maxHeartbeats 4000000 in
set_option maxRecDepth 100000 in
theorem law_k_latestExcused (F : lwF p s m c b L xs D I C Q9) (hL : L ≤ 3072) (hi : i + 6 ≤ L) (hI : uI D I C Q9 y0 a0 (lA s) H) (hS : va_S (lA s) s.heap H locs) (hl : lv_has ls 4 (lvs b y0 a0 i)) (hcs : cells + 13 ≤ 600000 ∧ slots + 1166 ≤ 7302249) (kk : ∀ (H1 : Heap) (locs1 : List Loc), uI D I C Q9 y0 a0 (lA s) H1 → va_S (lA s) s.heap H1 locs1 → W p l e room_1 s m #[Value.ref b] below meth c H1 locs1 (cells + 13) (slots + 1166) Q (F0 m 688 ls [])) : W p l e room_1 s m #[Value.ref b] below meth c H locs cells slots Q (F0 m 491 ls []) := by
  obtain ⟨mm, x, hR, hP, hD⟩ := hI
  refine lv_aload_n F.1 F.2.1 dL_law_491 rfl (lv_at hl 2 rfl) ?_
  refine law_ld F hL hi hS hl 1 (by omega) dL_law_492 dL_law_493 dL_law_494 rfl dL_law_495 dL_law_496 ?_
  refine law_ld F hL hi hS hl 2 (by omega) dL_law_497 dL_law_498 dL_law_499 rfl dL_law_500 dL_law_501 ?_
  refine law_c8 F hS hl.1 hP hD (uQ_latestExcused l D I C Q9 y0 a0 _ _ mm x hR) (cwV 2 F.2.2.2.2.1 gL_law_X8_latestExcused rfl rfl rfl (by decide +kernel) ⟨Nat.le_of_ble_eq_true rfl, Nat.le_of_ble_eq_true rfl⟩) rfl dL_law_502 rfl hcs (fun H locs r mm1 x1 h9 hR hP hD hS => ?_)
  refine lv_aload_n F.1 F.2.1 dL_law_505 rfl (lv_at hl 1 rfl) ?_
  refine law_ld F hL hi hS hl 1 (by omega) dL_law_506 dL_law_507 dL_law_508 rfl dL_law_509 dL_law_510 ?_
  refine law_ld F hL hi hS hl 2 (by omega) dL_law_511 dL_law_512 dL_law_513 rfl dL_law_514 dL_law_515 ?_
  refine law_c9 F hS hl.1 hP hD h9 hR (cwV 2 F.2.2.2.2.1 gL_law_X9_latestExcused rfl rfl rfl (by decide +kernel) ⟨Nat.le_of_ble_eq_true rfl, Nat.le_of_ble_eq_true rfl⟩) rfl dL_law_516 rfl hcs (fun H locs hI hS => ?_)
  exact lv_icmp_eq (tgt := 688) F.1 F.2.1 dL_law_519 (by decide) (fun _ => kk H locs hI hS) (fun h => absurd rfl h)
set_option maxHeartbeats 4000000 in
set_option maxRecDepth 100000 in
theorem law_k_filed (F : lwF p s m c b L xs D I C Q9) (hL : L ≤ 3072) (hi : i + 6 ≤ L) (hI : uI D I C Q9 y0 a0 (lA s) H) (hS : va_S (lA s) s.heap H locs) (hl : lv_has ls 4 (lvs b y0 a0 i)) (hcs : cells + 13 ≤ 600000 ∧ slots + 1166 ≤ 7302249) (kk : ∀ (H1 : Heap) (locs1 : List Loc), uI D I C Q9 y0 a0 (lA s) H1 → va_S (lA s) s.heap H1 locs1 → W p l e room_1 s m #[Value.ref b] below meth c H1 locs1 (cells + 13) (slots + 1166) Q (F0 m 688 ls [])) : W p l e room_1 s m #[Value.ref b] below meth c H locs cells slots Q (F0 m 524 ls []) := by
  obtain ⟨mm, x, hR, hP, hD⟩ := hI
  refine lv_aload_n F.1 F.2.1 dL_law_524 rfl (lv_at hl 2 rfl) ?_
  refine law_ld F hL hi hS hl 1 (by omega) dL_law_525 dL_law_526 dL_law_527 rfl dL_law_528 dL_law_529 ?_
  refine law_ld F hL hi hS hl 2 (by omega) dL_law_530 dL_law_531 dL_law_532 rfl dL_law_533 dL_law_534 ?_
  refine law_c8 F hS hl.1 hP hD (uQ_filed l D I C Q9 y0 a0 _ _ mm x hR) (cwV 2 F.2.2.2.2.1 gL_law_X8_filed rfl rfl rfl (by decide +kernel) ⟨Nat.le_of_ble_eq_true rfl, Nat.le_of_ble_eq_true rfl⟩) rfl dL_law_535 rfl hcs (fun H locs r mm1 x1 h9 hR hP hD hS => ?_)
  refine lv_aload_n F.1 F.2.1 dL_law_538 rfl (lv_at hl 1 rfl) ?_
  refine law_ld F hL hi hS hl 1 (by omega) dL_law_539 dL_law_540 dL_law_541 rfl dL_law_542 dL_law_543 ?_
  refine law_ld F hL hi hS hl 2 (by omega) dL_law_544 dL_law_545 dL_law_546 rfl dL_law_547 dL_law_548 ?_
  refine law_c9 F hS hl.1 hP hD h9 hR (cwV 2 F.2.2.2.2.1 gL_law_X9_filed rfl rfl rfl (by decide +kernel) ⟨Nat.le_of_ble_eq_true rfl, Nat.le_of_ble_eq_true rfl⟩) rfl dL_law_549 rfl hcs (fun H locs hI hS => ?_)
  exact lv_icmp_eq (tgt := 688) F.1 F.2.1 dL_law_552 (by decide) (fun _ => kk H locs hI hS) (fun h => absurd rfl h)
set_option maxHeartbeats 4000000 in
set_option maxRecDepth 100000 in
theorem law_k_trust (F : lwF p s m c b L xs D I C Q9) (hL : L ≤ 3072) (hi : i + 6 ≤ L) (hI : uI D I C Q9 y0 a0 (lA s) H) (hS : va_S (lA s) s.heap H locs) (hl : lv_has ls 4 (lvs b y0 a0 i)) (hcs : cells + 13 ≤ 600000 ∧ slots + 1166 ≤ 7302249) (kk : ∀ (H1 : Heap) (locs1 : List Loc), uI D I C Q9 y0 a0 (lA s) H1 → va_S (lA s) s.heap H1 locs1 → W p l e room_1 s m #[Value.ref b] below meth c H1 locs1 (cells + 13) (slots + 1166) Q (F0 m 688 ls [])) : W p l e room_1 s m #[Value.ref b] below meth c H locs cells slots Q (F0 m 557 ls []) := by
  obtain ⟨mm, x, hR, hP, hD⟩ := hI
  refine lv_aload_n F.1 F.2.1 dL_law_557 rfl (lv_at hl 2 rfl) ?_
  refine law_ld F hL hi hS hl 1 (by omega) dL_law_558 dL_law_559 dL_law_560 rfl dL_law_561 dL_law_562 ?_
  refine law_c8 F hS hl.1 hP hD (uQ_trust l D I C Q9 y0 a0 _ mm x hR) (cwV 1 F.2.2.2.2.1 gL_law_X8_trust rfl rfl rfl (by decide +kernel) ⟨Nat.le_of_ble_eq_true rfl, Nat.le_of_ble_eq_true rfl⟩) rfl dL_law_563 rfl hcs (fun H locs r mm1 x1 h9 hR hP hD hS => ?_)
  refine lv_aload_n F.1 F.2.1 dL_law_566 rfl (lv_at hl 1 rfl) ?_
  refine law_ld F hL hi hS hl 1 (by omega) dL_law_567 dL_law_568 dL_law_569 rfl dL_law_570 dL_law_571 ?_
  refine law_c9 F hS hl.1 hP hD h9 hR (cwV 1 F.2.2.2.2.1 gL_law_X9_trust rfl rfl rfl (by decide +kernel) ⟨Nat.le_of_ble_eq_true rfl, Nat.le_of_ble_eq_true rfl⟩) rfl dL_law_572 rfl hcs (fun H locs hI hS => ?_)
  exact lv_icmp_eq (tgt := 688) F.1 F.2.1 dL_law_575 (by decide) (fun _ => kk H locs hI hS) (fun h => absurd rfl h)
end LAW
