/-! calls of the law, both sides -/
section LCS4
variable {p : Program} {l : Launch} {e : Env} {s : State} {m : MethodId} {args : Array Value} {below : List Frame} {meth : Method} {c : Code} {D : va_G} {Y : Nat → ClassId} {A : Nat → Prop} {cells slots : Nat} {Q : State → Prop} {b L : Nat} {xs : Nat → Int32} {ad : Nat → Nat → Nat} {mo : Nat → Nat} {F : Nat → Nat → Nat → Int32} {M : Nat → Nat → Int32} {i cN : Nat}
set_option maxHeartbeats 4000000 in
set_option maxRecDepth 100000 in
theorem lc_link (h : LC p s m args meth c D Y A b L xs) (hcs : cells ≤ room_1.cells ∧ slots ≤ room_1.slots) (hi : i + 4 ≤ L) (hw : Wh cN F M) (hc : cN + 50 < 2 ^ 29) (kk : ∀ F' M', Wh (cN + 20) F' M' → J p l e room_1 s m args below meth c 4 D A cells slots Q (FB Y ad F' ++ [moB Y mo M']) 624 (lvL b (ad 8 2) (mo 0) i) []) : J p l e room_1 s m args below meth c 4 D A cells slots Q (FB Y ad F ++ [moB Y mo M]) 394 (lvL b (ad 8 2) (mo 0) i) [] := by
  obtain ⟨m11, m12, m9, m10, m00, m3, m31⟩ := Wh_mn hw
  obtain ⟨L9, n9, p9, nS9, t9, ph9, r9, i9, ht9, o9⟩ := id hw.1
  have eq := Q_link r9 i9 (xs (i + 1)) (xs (i + 2))
  refine j_aload_n h.1 (pc := 394) dL_law_394 2 rfl ?_
  refine lw_arg h (pc := 395) 1 1 (by decide) (by omega) dL_law_395 dL_law_396 dL_law_397 dL_law_398 dL_law_399 ?_
  refine lw_arg h (pc := 400) 2 2 (by decide) (by omega) dL_law_400 dL_law_401 dL_law_402 dL_law_403 dL_law_404 ?_
  refine lw_c7 h (pc := 405) 2 (c_X7_link l D Y ad F (xs (i + 1)) (xs (i + 2)) (Gd_wf hw.1).2.1) gL_law_X7_link rfl (by decide +kernel) rfl ⟨Nat.le_of_ble_eq_true rfl, Nat.le_of_ble_eq_true rfl⟩ rfl (Nat.le_of_ble_eq_true rfl) dL_law_405 hcs ?_
  refine j_aload_n h.1 (pc := 408) dL_law_408 3 rfl ?_
  refine lw_arg h (pc := 409) 1 1 (by decide) (by omega) dL_law_409 dL_law_410 dL_law_411 dL_law_412 dL_law_413 ?_
  refine lw_arg h (pc := 414) 2 2 (by decide) (by omega) dL_law_414 dL_law_415 dL_law_416 dL_law_417 dL_law_418 ?_
  refine lw_c8 h (pc := 419) 2 (c_X8_link l D Y mo M (xs (i + 1)) (xs (i + 2)) m3) gL_law_X8_link rfl (by decide +kernel) rfl ⟨Nat.le_of_ble_eq_true rfl, Nat.le_of_ble_eq_true rfl⟩ rfl (Nat.le_of_ble_eq_true rfl) dL_law_419 hcs ?_
  exact j_icmp_eq h.1 (pc := 422) (tgt := 624) dL_law_422 (by decide) (fun _ => kk _ _ (Wh_up hw (by omega))) (fun z => absurd eq z)
set_option maxHeartbeats 4000000 in
set_option maxRecDepth 100000 in
theorem lc_stage (h : LC p s m args meth c D Y A b L xs) (hcs : cells ≤ room_1.cells ∧ slots ≤ room_1.slots) (hi : i + 4 ≤ L) (hw : Wh cN F M) (hc : cN + 50 < 2 ^ 29) (kk : ∀ F' M', Wh (cN + 20) F' M' → J p l e room_1 s m args below meth c 4 D A cells slots Q (FB Y ad F' ++ [moB Y mo M']) 624 (lvL b (ad 8 2) (mo 0) i) []) : J p l e room_1 s m args below meth c 4 D A cells slots Q (FB Y ad F ++ [moB Y mo M]) 427 (lvL b (ad 8 2) (mo 0) i) [] := by
  obtain ⟨m11, m12, m9, m10, m00, m3, m31⟩ := Wh_mn hw
  obtain ⟨L9, n9, p9, nS9, t9, ph9, r9, i9, ht9, o9⟩ := id hw.1
  have eq := Q_stage r9 i9 (xs (i + 1))
  refine j_aload_n h.1 (pc := 427) dL_law_427 2 rfl ?_
  refine lw_arg h (pc := 428) 1 1 (by decide) (by omega) dL_law_428 dL_law_429 dL_law_430 dL_law_431 dL_law_432 ?_
  refine lw_c7 h (pc := 433) 1 (c_X7_stage l D Y ad F (xs (i + 1)) (Gd_wf hw.1).2.1) gL_law_X7_stage rfl (by decide +kernel) rfl ⟨Nat.le_of_ble_eq_true rfl, Nat.le_of_ble_eq_true rfl⟩ rfl (Nat.le_of_ble_eq_true rfl) dL_law_433 hcs ?_
  refine j_aload_n h.1 (pc := 436) dL_law_436 3 rfl ?_
  refine lw_arg h (pc := 437) 1 1 (by decide) (by omega) dL_law_437 dL_law_438 dL_law_439 dL_law_440 dL_law_441 ?_
  refine lw_c8 h (pc := 442) 1 (c_X8_stage l D Y mo M (xs (i + 1)) m3 m31) gL_law_X8_stage rfl (by decide +kernel) rfl ⟨Nat.le_of_ble_eq_true rfl, Nat.le_of_ble_eq_true rfl⟩ rfl (Nat.le_of_ble_eq_true rfl) dL_law_442 hcs ?_
  exact j_icmp_eq h.1 (pc := 445) (tgt := 624) dL_law_445 (by decide) (fun _ => kk _ _ (Wh_up hw (by omega))) (fun z => absurd eq z)
set_option maxHeartbeats 4000000 in
set_option maxRecDepth 100000 in
theorem lc_waiting (h : LC p s m args meth c D Y A b L xs) (hcs : cells ≤ room_1.cells ∧ slots ≤ room_1.slots) (hi : i + 4 ≤ L) (hw : Wh cN F M) (hc : cN + 50 < 2 ^ 29) (kk : ∀ F' M', Wh (cN + 20) F' M' → J p l e room_1 s m args below meth c 4 D A cells slots Q (FB Y ad F' ++ [moB Y mo M']) 624 (lvL b (ad 8 2) (mo 0) i) []) : J p l e room_1 s m args below meth c 4 D A cells slots Q (FB Y ad F ++ [moB Y mo M]) 450 (lvL b (ad 8 2) (mo 0) i) [] := by
  obtain ⟨m11, m12, m9, m10, m00, m3, m31⟩ := Wh_mn hw
  obtain ⟨L9, n9, p9, nS9, t9, ph9, r9, i9, ht9, o9⟩ := id hw.1
  have eq := Q_waiting r9 (xs (i + 1)) (xs (i + 2))
  refine j_aload_n h.1 (pc := 450) dL_law_450 2 rfl ?_
  refine lw_arg h (pc := 451) 1 1 (by decide) (by omega) dL_law_451 dL_law_452 dL_law_453 dL_law_454 dL_law_455 ?_
  refine lw_arg h (pc := 456) 2 2 (by decide) (by omega) dL_law_456 dL_law_457 dL_law_458 dL_law_459 dL_law_460 ?_
  refine lw_c7 h (pc := 461) 2 (c_X7_waiting l D Y ad F (xs (i + 1)) (xs (i + 2)) (Gd_wf hw.1).2.2.2.2.1 (Gd_wf hw.1).2.2.2.2.2) gL_law_X7_waiting rfl (by decide +kernel) rfl ⟨Nat.le_of_ble_eq_true rfl, Nat.le_of_ble_eq_true rfl⟩ rfl (Nat.le_of_ble_eq_true rfl) dL_law_461 hcs ?_
  refine j_aload_n h.1 (pc := 464) dL_law_464 3 rfl ?_
  refine lw_arg h (pc := 465) 1 1 (by decide) (by omega) dL_law_465 dL_law_466 dL_law_467 dL_law_468 dL_law_469 ?_
  refine lw_arg h (pc := 470) 2 2 (by decide) (by omega) dL_law_470 dL_law_471 dL_law_472 dL_law_473 dL_law_474 ?_
  refine lw_c8 h (pc := 475) 2 (c_X8_waiting l D Y mo M (xs (i + 1)) (xs (i + 2)) m11 m12) gL_law_X8_waiting rfl (by decide +kernel) rfl ⟨Nat.le_of_ble_eq_true rfl, Nat.le_of_ble_eq_true rfl⟩ rfl (Nat.le_of_ble_eq_true rfl) dL_law_475 hcs ?_
  exact j_icmp_eq h.1 (pc := 478) (tgt := 624) dL_law_478 (by decide) (fun _ => kk _ _ (Wh_up hw (by omega))) (fun z => absurd eq z)
set_option maxHeartbeats 4000000 in
set_option maxRecDepth 100000 in
theorem lc_noted (h : LC p s m args meth c D Y A b L xs) (hcs : cells ≤ room_1.cells ∧ slots ≤ room_1.slots) (hi : i + 4 ≤ L) (hw : Wh cN F M) (hc : cN + 50 < 2 ^ 29) (kk : ∀ F' M', Wh (cN + 20) F' M' → J p l e room_1 s m args below meth c 4 D A cells slots Q (FB Y ad F' ++ [moB Y mo M']) 624 (lvL b (ad 8 2) (mo 0) i) []) : J p l e room_1 s m args below meth c 4 D A cells slots Q (FB Y ad F ++ [moB Y mo M]) 483 (lvL b (ad 8 2) (mo 0) i) [] := by
  obtain ⟨m11, m12, m9, m10, m00, m3, m31⟩ := Wh_mn hw
  obtain ⟨L9, n9, p9, nS9, t9, ph9, r9, i9, ht9, o9⟩ := id hw.1
  have eq := Q_noted r9 (xs (i + 1)) (xs (i + 2))
  refine j_aload_n h.1 (pc := 483) dL_law_483 2 rfl ?_
  refine lw_arg h (pc := 484) 1 1 (by decide) (by omega) dL_law_484 dL_law_485 dL_law_486 dL_law_487 dL_law_488 ?_
  refine lw_arg h (pc := 489) 2 2 (by decide) (by omega) dL_law_489 dL_law_490 dL_law_491 dL_law_492 dL_law_493 ?_
  refine lw_c7 h (pc := 494) 2 (c_X7_noted l D Y ad F (xs (i + 1)) (xs (i + 2)) (Gd_wf hw.1).2.2.1) gL_law_X7_noted rfl (by decide +kernel) rfl ⟨Nat.le_of_ble_eq_true rfl, Nat.le_of_ble_eq_true rfl⟩ rfl (Nat.le_of_ble_eq_true rfl) dL_law_494 hcs ?_
  refine j_aload_n h.1 (pc := 497) dL_law_497 3 rfl ?_
  refine lw_arg h (pc := 498) 1 1 (by decide) (by omega) dL_law_498 dL_law_499 dL_law_500 dL_law_501 dL_law_502 ?_
  refine lw_arg h (pc := 503) 2 2 (by decide) (by omega) dL_law_503 dL_law_504 dL_law_505 dL_law_506 dL_law_507 ?_
  refine lw_c8 h (pc := 508) 2 (c_X8_noted l D Y mo M (xs (i + 1)) (xs (i + 2))) gL_law_X8_noted rfl (by decide +kernel) rfl ⟨Nat.le_of_ble_eq_true rfl, Nat.le_of_ble_eq_true rfl⟩ rfl (Nat.le_of_ble_eq_true rfl) dL_law_508 hcs ?_
  exact j_icmp_eq h.1 (pc := 511) (tgt := 624) dL_law_511 (by decide) (fun _ => kk _ _ (Wh_up hw (by omega))) (fun z => absurd eq z)
set_option maxHeartbeats 4000000 in
set_option maxRecDepth 100000 in
theorem lc_total (h : LC p s m args meth c D Y A b L xs) (hcs : cells ≤ room_1.cells ∧ slots ≤ room_1.slots) (hi : i + 4 ≤ L) (hw : Wh cN F M) (hc : cN + 50 < 2 ^ 29) (kk : ∀ F' M', Wh (cN + 20) F' M' → J p l e room_1 s m args below meth c 4 D A cells slots Q (FB Y ad F' ++ [moB Y mo M']) 624 (lvL b (ad 8 2) (mo 0) i) []) : J p l e room_1 s m args below meth c 4 D A cells slots Q (FB Y ad F ++ [moB Y mo M]) 516 (lvL b (ad 8 2) (mo 0) i) [] := by
  obtain ⟨m11, m12, m9, m10, m00, m3, m31⟩ := Wh_mn hw
  obtain ⟨L9, n9, p9, nS9, t9, ph9, r9, i9, ht9, o9⟩ := id hw.1
  obtain ⟨-, ⟨x8, -, q8, q9, -⟩, -, ⟨x7, -, q6, q7, -⟩⟩ := id hw
  have e8 : F 8 0 0 = M 0 0 := q8.trans q9.symm
  have e7 : F 7 0 0 = M 0 2 := q6.trans q7.symm
  have eq := Q_total r9 i9 o9 e8 e7 (xs (i + 1))
  refine j_aload_n h.1 (pc := 516) dL_law_516 2 rfl ?_
  refine lw_arg h (pc := 517) 1 1 (by decide) (by omega) dL_law_517 dL_law_518 dL_law_519 dL_law_520 dL_law_521 ?_
  refine lw_c7 h (pc := 522) 1 (c_X7_total l D Y ad F (xs (i + 1)) (Gd_wf hw.1).2.1) gL_law_X7_total rfl (by decide +kernel) rfl ⟨Nat.le_of_ble_eq_true rfl, Nat.le_of_ble_eq_true rfl⟩ rfl (Nat.le_of_ble_eq_true rfl) dL_law_522 hcs ?_
  refine j_aload_n h.1 (pc := 525) dL_law_525 3 rfl ?_
  refine lw_arg h (pc := 526) 1 1 (by decide) (by omega) dL_law_526 dL_law_527 dL_law_528 dL_law_529 dL_law_530 ?_
  refine lw_c8 h (pc := 531) 1 (c_X8_total l D Y mo M (xs (i + 1))) gL_law_X8_total rfl (by decide +kernel) rfl ⟨Nat.le_of_ble_eq_true rfl, Nat.le_of_ble_eq_true rfl⟩ rfl (Nat.le_of_ble_eq_true rfl) dL_law_531 hcs ?_
  exact j_icmp_eq h.1 (pc := 534) (tgt := 624) dL_law_534 (by decide) (fun _ => kk _ _ (Wh_up hw (by omega))) (fun z => absurd eq z)
end LCS4
