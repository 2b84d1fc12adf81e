set_option maxHeartbeats 4000000 in
set_option maxRecDepth 100000 in
theorem law_case_2 {p : Program} {l : Launch} {e : Env} {s : State} {m : MethodId} {below : List Frame} {meth : Method} {c : Code} {b L : Nat} {xs : Nat → Int32} {D : va_G} {a : AD} {σ : SB} {μ : SM} (C : LawAt p l s m meth c b L xs) (hK : va_K D classes (TYL a) s) (ha : AOK a) {H : Heap} {locs : List Loc} {cells slots j : Nat} {ls : Array Slot} (hl : lv_has ls 7 [(4, .int (nI j)), (3, .ref a.oa), (2, .ref a.mo), (1, .ref a.bk), (0, .ref b)]) (hI : Inv s D a σ μ H locs) (R : RelL σ μ) (hj : j + 8 ≤ L) (hc : cells + 1 ≤ 601024) (hs : slots + 6 ≤ 7293034)
    (kk : ∀ (σ' : SB) (μ' : SM) (H : Heap) (locs : List Loc) (ls : Array Slot), lv_has ls 7 [(4, .int (nI j)), (3, .ref a.oa), (2, .ref a.mo), (1, .ref a.bk), (0, .ref b)] → Inv s D a σ' μ' H locs → RelL σ' μ' → W p l e room_1 s m #[Value.ref b] below meth c H locs (cells + 1) (slots + 6) (lw_Z below #[Value.ref b] s) (F0 m 766 ls [])) : W p l e room_1 s m #[Value.ref b] below meth c H locs cells slots (lw_Z below #[Value.ref b] s) (F0 m 387 ls []) := by
  have hx := C.hx
  have hb := C.hb
  obtain ⟨R1, R2, R3, R4, R5, R6, R7⟩ := id R
  refine lv_aload_n hx hb d_law_387 rfl (lv_at hl 3 rfl) ?_
  refine ga1 C hI.2.2 (lv_at hl 4 rfl) (lv_at hl 0 rfl) hj 1 (by decide) (n := 1) (by decide) d_law_388 d_law_389 d_law_391 d_law_392 d_law_393 ?_
  refine ga1 C hI.2.2 (lv_at hl 4 rfl) (lv_at hl 0 rfl) hj 2 (by decide) (n := 2) (by decide) d_law_394 d_law_395 d_law_397 d_law_398 d_law_399 ?_
  refine gz C d_law_400 d_law_403 d_law_404 d_law_407 ?_
  refine ga1 C hI.2.2 (lv_at hl 4 rfl) (lv_at hl 0 rfl) hj 3 (by decide) (n := 3) (by decide) d_law_408 d_law_409 d_law_411 d_law_412 d_law_413 ?_
  refine gl1 C hI.2.2 (lv_at hl 4 rfl) (lv_at hl 0 rfl) hj 4 (by decide) (n := 4) (n' := 5) (by decide) (by decide) d_law_414 d_law_415 d_law_417 d_law_418 d_law_419 d_law_420 d_law_421 d_law_423 d_law_424 d_law_425 d_law_427 d_law_428 d_law_429 d_law_430 d_law_431 d_law_434 d_law_435 ?_
  refine gl2 C hI.2.2 (lv_at hl 4 rfl) (lv_at hl 0 rfl) hj 6 (by decide) (n := 6) (n' := 7) (by decide) (by decide) d_law_436 d_law_437 d_law_439 d_law_441 d_law_442 d_law_443 d_law_444 d_law_446 d_law_447 d_law_448 d_law_450 d_law_452 d_law_453 d_law_454 d_law_455 d_law_458 d_law_459 ?_
  refine lo_K_put C hK hl.1 hI (xs (j + 1)) (nz (xs (j + 2))) (xs (j + 3)) (LV xs (j + 4)) (LV xs (j + 6)) (by omega) (by omega) d_law_460 (fun u H locs hu hI => ?_)
  refine lv_aload_n hx hb d_law_463 rfl (lv_at hl 2 rfl) ?_
  refine ga1 C hI.2.2 (lv_at hl 4 rfl) (lv_at hl 0 rfl) hj 1 (by decide) (n := 1) (by decide) d_law_464 d_law_465 d_law_467 d_law_468 d_law_469 ?_
  refine ga1 C hI.2.2 (lv_at hl 4 rfl) (lv_at hl 0 rfl) hj 2 (by decide) (n := 2) (by decide) d_law_470 d_law_471 d_law_473 d_law_474 d_law_475 ?_
  refine gz C d_law_476 d_law_479 d_law_480 d_law_483 ?_
  refine ga1 C hI.2.2 (lv_at hl 4 rfl) (lv_at hl 0 rfl) hj 3 (by decide) (n := 3) (by decide) d_law_484 d_law_485 d_law_487 d_law_488 d_law_489 ?_
  refine gl1 C hI.2.2 (lv_at hl 4 rfl) (lv_at hl 0 rfl) hj 4 (by decide) (n := 4) (n' := 5) (by decide) (by decide) d_law_490 d_law_491 d_law_493 d_law_494 d_law_495 d_law_496 d_law_497 d_law_499 d_law_500 d_law_501 d_law_503 d_law_504 d_law_505 d_law_506 d_law_507 d_law_510 d_law_511 ?_
  refine gl2 C hI.2.2 (lv_at hl 4 rfl) (lv_at hl 0 rfl) hj 6 (by decide) (n := 6) (n' := 7) (by decide) (by decide) d_law_512 d_law_513 d_law_515 d_law_517 d_law_518 d_law_519 d_law_520 d_law_522 d_law_523 d_law_524 d_law_526 d_law_528 d_law_529 d_law_530 d_law_531 d_law_534 d_law_535 ?_
  obtain ⟨bb, kd', ng', ex', bh', bl', sg', w', e1, e2, R'⟩ := put_eq R3 (xs (j + 1)) (nz (xs (j + 2))) (xs (j + 3)) (LV xs (j + 4)) (LV xs (j + 6))
  rw [e1] at hu
  subst hu
  refine lo_M_put C hK hl.1 hI (bI bb) (xs (j + 1)) (nz (xs (j + 2))) (xs (j + 3)) (LV xs (j + 4)) (LV xs (j + 6)) (by omega) (by omega) d_law_536 (fun u2 H locs hu2 hI => ?_)
  rw [← R1, ← R2, e2] at hu2
  subst hu2
  refine lv_icmp_eq (tgt := 766) hx hb d_law_539 (by decide) (fun _ => ?_) (fun h => absurd rfl h)
  refine W.widen (k := cells + 1) (n := slots + 6) (by omega) (by omega) ?_
  exact kk _ _ H locs ls hl hI ⟨rfl, rfl, R', R4, R5, R6, R7⟩
