/-! the law's own walk: the end of a turn -/
section LTAIL
variable {p : Program} {l : Launch} {e : Env} {s : State} {m : MethodId} {args : Array Value} {below : List Frame} {meth : Method} {c : Code} {D : va_G} {Y : Nat → ClassId} {A : Nat → Prop} {cells slots : Nat} {Q : State → Prop} {b L : Nat} {xs : Nat → Int32} {ad : Nat → Nat → Nat} {la : Nat → Nat}
theorem FBx_w87 (Y : Nat → ClassId) (ad : Nat → Nat → Nat) (F : Nat → Nat → Nat → Int32) (X X' : va_W) : (FB Y ad F ++ [X]).set 87 X' = FB Y ad F ++ [X'] := by
  have h := FBx_p87 Y ad F X X'
  exact h
theorem FBx_len (Y : Nat → ClassId) (ad : Nat → Nat → Nat) (F : Nat → Nat → Nat → Int32) (X : va_W) : (FB Y ad F ++ [X]).length = 88 := by
  rw [List.length_append, FB_len]; rfl
theorem nd_range88 : va_nd (List.range 88) = true := by decide +kernel
/-! told, call and undo over the class's world, the law's rows beside it -/
set_option maxHeartbeats 4000000 in
set_option maxRecDepth 100000 in
theorem lw_tail (cx : Cx p s m args meth c cL_law 21 RL wsL_law D (tyL Y)) (hcs : cells ≤ room_1.cells ∧ slots ≤ room_1.slots) {cN bN : Nat} {F : Nat → Nat → Nat → Int32} {M G : Nat → Nat → Int32} (ts : TS cN bN F M G) (hc : cN + 3 < 2 ^ 29) (hb : bN ≤ 600000) {k a w v i : Nat} {x y : Int32} (ar : Arg k a w v (tN (G 0 3))) (kk : ∀ F' M' G', TS (cN + 2) (bN + 12800) F' M' G' → J p l e room_1 s m args below meth c 21 D A cells slots Q (FB Y ad F' ++ [lwB Y la G']) 525 [(1, .ref (ad 8 2)), (0, .ref b), (2, .ref (la 0)), (3, .ref (la 1)), (4, .ref (la 2)), (5, .ref (la 3)), (6, .ref (la 4)), (7, .ref (la 5)), (8, .ref (la 6)), (9, .ref (la 7)), (10, .ref (la 8)), (11, .int (nI i))] []) : J p l e room_1 s m args below meth c 21 D A cells slots Q (FB Y ad F ++ [lwB Y la G]) 384 [(17, .int (nI v)), (16, .int (nI w)), (15, .int (nI a)), (14, .int (nI k)), (13, .int y), (12, .int x), (1, .ref (ad 8 2)), (0, .ref b), (2, .ref (la 0)), (3, .ref (la 1)), (4, .ref (la 2)), (5, .ref (la 3)), (6, .ref (la 4)), (7, .ref (la 5)), (8, .ref (la 6)), (9, .ref (la 7)), (10, .ref (la 8)), (11, .int (nI i))] [] := by
  obtain ⟨r, F2, G2, tn, hcall, hdue, out⟩ := turn ts (by omega) hb ar
  have g := ts.1.1
  have K468 : ∀ (F4 : Nat → Nat → Nat → Int32) (M4 : Nat → Nat → Int32), TS (cN + 2) (bN + 12800) F4 M4 G2 → J p l e room_1 s m args below meth c 21 D A cells slots Q (FB Y ad F4 ++ [lwB Y la G]) 468 [(20, .int r), (18, .long (toldV F)), (17, .int (nI v)), (16, .int (nI w)), (15, .int (nI a)), (14, .int (nI k)), (13, .int y), (12, .int x), (1, .ref (ad 8 2)), (0, .ref b), (2, .ref (la 0)), (3, .ref (la 1)), (4, .ref (la 2)), (5, .ref (la 3)), (6, .ref (la 4)), (7, .ref (la 5)), (8, .ref (la 6)), (9, .ref (la 7)), (10, .ref (la 8)), (11, .int (nI i))] [] := by
    intro F4 M4 t4
    have g4 := t4.1.1
    have w4 := Gd_wf g4
    obtain ⟨sL, sR, sT⟩ := so_all g4 t4.2.1
    obtain ⟨lb2, n1, rw2⟩ : lqLB G2 ∧ 1 ≤ tN (G2 0 3) ∧ ∀ k, k < 2 → vp_in (G2 0 (11 + k)) 21 := by
      obtain ⟨Ls, n, p, nS, t, ph, h, i, ht, o⟩ := g4
      refine ⟨lb_of h i t4.2.1, ?_, fun s hs => ?_⟩
      · rw [LQ_q t4.2.1 (by decide), R_n3 h i, tN_nI (by have := i.1.2.1; omega)]
        exact i.1.1
      · obtain ⟨-, ⟨x1, x2, x3, -⟩, ⟨y1, y2, y3, -⟩, -⟩ := nd_of h i o
        rw [LQ_q t4.2.1 (by omega)]
        match s, hs with
        | 0, _ => rw [show 11 + 0 = 11 from rfl, x3]; exact vp_in_nI' (by omega)
        | 1, _ => rw [show 11 + 1 = 12 from rfl, y3]; exact vp_in_nI' (by omega)
    refine j_iload cx (pc := 468) dL_law_468 0 rfl ?_
    refine j_iload cx (pc := 470) dL_law_470 5 rfl ?_
    refine j_iload cx (pc := 472) dL_law_472 4 rfl ?_
    refine j_iload cx (pc := 474) dL_law_474 3 rfl ?_
    refine j_iload cx (pc := 476) dL_law_476 2 rfl ?_
    refine j_aload_n cx (pc := 478) dL_law_478 10 rfl ?_
    refine j_aload_n cx (pc := 479) dL_law_479 11 rfl ?_
    refine j_aload cx (pc := 480) dL_law_480 12 rfl ?_
    refine j_aload cx (pc := 482) dL_law_482 13 rfl ?_
    refine j_aload cx (pc := 484) dL_law_484 14 rfl ?_
    refine j_aload cx (pc := 486) dL_law_486 15 rfl ?_
    refine j_aload cx (pc := 488) dL_law_488 16 rfl ?_
    refine j_aload cx (pc := 490) dL_law_490 17 rfl ?_
    refine j_aload cx (pc := 492) dL_law_492 18 rfl ?_
    obtain ⟨fr, lo, hf, hlo, hM⟩ := hdue l D Y la
    refine j_csi cx (pc := 494) 13 hM gL_law_L_due rfl (by decide +kernel) rfl ⟨show fr + 1 ≤ 10 by omega, show 8 + (17 + 11) + lo ≤ 390 by omega⟩ [87] (FBx_s87 Y ad _ _) (by decide) (Bs' := FB Y ad F4 ++ [lwB Y la G2]) (FBx_p87 Y ad _ _ _) A1_lw rfl (Nat.le_of_ble_eq_true rfl) dL_law_494 hcs ?_
    refine j_icmp_ne cx (pc := 497) (tgt := 523) dL_law_497 (by decide) (fun z => absurd rfl z) (fun _ => ?_)
    refine j_aload_n cx (pc := 500) dL_law_500 8 rfl ?_
    refine j_iload cx (pc := 501) dL_law_501 7 rfl ?_
    refine j_iconst cx (pc := 503) (v := nI 5) dL_law_503 (by decide) ?_
    refine j_ishr cx (pc := 504) dL_law_504 ?_
    refine j_aload_n cx (pc := 505) dL_law_505 10 rfl ?_
    refine j_aload_n cx (pc := 506) dL_law_506 11 rfl ?_
    refine j_aload cx (pc := 507) dL_law_507 12 rfl ?_
    refine j_aload cx (pc := 509) dL_law_509 13 rfl ?_
    refine j_aload cx (pc := 511) dL_law_511 14 rfl ?_
    refine j_aload cx (pc := 513) dL_law_513 16 rfl ?_
    refine j_aload cx (pc := 515) dL_law_515 18 rfl ?_
    refine j_csi cx (pc := 517) 9 (c_L_isSo l D Y ad la F4 G2 _ w4.2.1 w4.2.2.2.2.1 w4.2.2.2.2.2 w4.2.2.1 w4.1 lb2.2.2.1 n1 lb2.1 rw2 sL sR sT) gL_law_L_isSo rfl (by decide +kernel) rfl ⟨Nat.le_of_ble_eq_true rfl, Nat.le_of_ble_eq_true rfl⟩ (List.range 88) (sel_all (FBx_len Y ad _ _)) nd_range88 (Bs' := FB Y ad F4 ++ [lwB Y la G2]) (putL_same (sel_all (FBx_len Y ad _ _))) rfl rfl (Nat.le_of_ble_eq_true rfl) dL_law_517 hcs ?_
    refine j_ifN_ne cx (pc := 520) (by decide) (tgt := 525) dL_law_520 (by decide) (fun _ => ?_) (fun z => absurd z (by decide))
    refine j_lvm (lv' := [(1, .ref (ad 8 2)), (0, .ref b), (2, .ref (la 0)), (3, .ref (la 1)), (4, .ref (la 2)), (5, .ref (la 3)), (6, .ref (la 4)), (7, .ref (la 5)), (8, .ref (la 6)), (9, .ref (la 7)), (10, .ref (la 8)), (11, .int (nI i))]) (by intro z hz; simp only [List.mem_cons, List.not_mem_nil, or_false] at hz ⊢; rcases hz with rfl | rfl | rfl | rfl | rfl | rfl | rfl | rfl | rfl | rfl | rfl | rfl <;> simp) ?_
    exact kk F4 M4 G2 t4
  have up2 : ∀ {F' : Nat → Nat → Nat → Int32} {M' : Nat → Nat → Int32}, Wh (cN + 1) F' M' → Wh (cN + 2) F' M' := fun h => Wh_up h (by omega)
  have w0 := Gd_wf g
  refine j_aload_n cx (pc := 384) dL_law_384 6 rfl ?_
  refine j_csl cx (pc := 385) 1 (c_L_told l D Y ad F w0.2.1 w0.1) gL_law_L_told rfl (by decide +kernel) rfl ⟨Nat.le_of_ble_eq_true rfl, Nat.le_of_ble_eq_true rfl⟩ (List.range 87) (FBx_s Y ad _ _) nd_range87 (FBx_p Y ad _ _ _) A1_FB rfl (Nat.le_of_ble_eq_true rfl) dL_law_385 hcs ?_
  refine j_lstore cx (pc := 388) (lv' := [(18, .long (toldV F)), (17, .int (nI v)), (16, .int (nI w)), (15, .int (nI a)), (14, .int (nI k)), (13, .int y), (12, .int x), (1, .ref (ad 8 2)), (0, .ref b), (2, .ref (la 0)), (3, .ref (la 1)), (4, .ref (la 2)), (5, .ref (la 3)), (6, .ref (la 4)), (7, .ref (la 5)), (8, .ref (la 6)), (9, .ref (la 7)), (10, .ref (la 8)), (11, .int (nI i))]) dL_law_388 (by decide) rfl ?_
  refine j_aload_n cx (pc := 390) dL_law_390 7 rfl ?_
  refine j_iload cx (pc := 391) dL_law_391 4 rfl ?_
  refine j_iload cx (pc := 393) dL_law_393 3 rfl ?_
  refine j_iload cx (pc := 395) dL_law_395 2 rfl ?_
  refine j_iload cx (pc := 397) dL_law_397 1 rfl ?_
  obtain ⟨fr, lo, hf, hlo, hM⟩ := hcall l D Y ad
  refine j_csi cx (pc := 399) 5 hM gL_law_L_call rfl (by decide +kernel) rfl ⟨show fr + 1 ≤ 10 by omega, show 8 + (5 + 11) + lo ≤ 390 by omega⟩ (List.range 87) (FBx_s Y ad _ _) nd_range87 (Bs' := FB Y ad F2 ++ [lwB Y la G]) (FBx_p Y ad _ _ _) A1_FB rfl (Nat.le_of_ble_eq_true rfl) dL_law_399 hcs ?_
  refine j_istore cx (pc := 402) (lv' := [(20, .int r), (18, .long (toldV F)), (17, .int (nI v)), (16, .int (nI w)), (15, .int (nI a)), (14, .int (nI k)), (13, .int y), (12, .int x), (1, .ref (ad 8 2)), (0, .ref b), (2, .ref (la 0)), (3, .ref (la 1)), (4, .ref (la 2)), (5, .ref (la 3)), (6, .ref (la 4)), (7, .ref (la 5)), (8, .ref (la 6)), (9, .ref (la 7)), (10, .ref (la 8)), (11, .int (nI i))]) dL_law_402 (by decide) rfl ?_
  have out0 := out
  obtain ⟨M2, wh2, lq2, phi2, neg2, pos2⟩ := out0
  have t2 : TS (cN + 2) (bN + 12800) F2 M2 G2 := ⟨up2 wh2, lq2, phi2⟩
  refine j_iload cx (pc := 404) dL_law_404 0 rfl ?_
  refine j_if_ge cx (pc := 406) (tgt := 422) dL_law_406 (by decide) (fun z => ?_) (fun z => ?_)
  · refine j_iload cx (pc := 422) dL_law_422 7 rfl ?_
    refine j_bipush cx (pc := 424) (v := nI 24) dL_law_424 (by decide) ?_
    refine j_ishr cx (pc := 426) dL_law_426 ?_
    refine j_iconst cx (pc := 427) (v := nI 3) dL_law_427 (by decide) ?_
    refine j_iand cx (pc := 428) dL_law_428 ?_
    refine j_if_ne cx (pc := 429) (tgt := 468) dL_law_429 (by decide) (fun _ => K468 F2 M2 t2) (fun _ => ?_)
    obtain ⟨u1, u2, u3, M3, t3, e3⟩ := undo_back ts out z
    refine j_aload_n cx (pc := 432) dL_law_432 8 rfl ?_
    refine j_calli cx (pc := 433) 0 (c_X7_undo l D Y ad F2 u2 u1) gL_law_X7_undo rfl (by decide +kernel) rfl ⟨Nat.le_of_ble_eq_true rfl, Nat.le_of_ble_eq_true rfl⟩ (List.range 87) (FBx_s Y ad _ _) nd_range87 (Bs' := FB Y ad (C7_undo F2).2 ++ [lwB Y la G]) (FBx_p Y ad _ _ _) A1_FB 85 0 rfl rfl rfl rfl (Nat.le_of_ble_eq_true rfl) dL_law_433 hcs ?_
    refine j_if_lt cx (pc := 436) (tgt := 466) dL_law_436 (by decide) (fun q => absurd q (Int32.not_lt.mpr u3)) (fun _ => ?_)
    have w3 := Gd_wf t3.1.1
    refine j_aload_n cx (pc := 439) dL_law_439 8 rfl ?_
    refine j_csl cx (pc := 440) 1 (c_L_told l D Y ad (C7_undo F2).2 w3.2.1 w3.1) gL_law_L_told rfl (by decide +kernel) rfl ⟨Nat.le_of_ble_eq_true rfl, Nat.le_of_ble_eq_true rfl⟩ (List.range 87) (FBx_s Y ad _ _) nd_range87 (FBx_p Y ad _ _ _) A1_FB rfl (Nat.le_of_ble_eq_true rfl) dL_law_440 hcs ?_
    refine j_lload cx (pc := 443) dL_law_443 1 rfl ?_
    refine j_lcmp cx (pc := 445) dL_law_445 ?_
    have q3 : Gd (cN + 1) ((C7_undo F2).2 0) (M 1) := Gd_m t3.1.1 (fun j hj => (e3 j hj).symm)
    rw [told_same g q3 ts.2.1, lg_self]
    refine j_if_ne cx (pc := 446) (tgt := 466) dL_law_446 (by decide) (fun q => absurd rfl q) (fun _ => ?_)
    obtain ⟨F4, hcall4, M4, wh4, lq4, phi4, -, -⟩ := tn t3 (by omega) hb
    refine j_aload_n cx (pc := 449) dL_law_449 8 rfl ?_
    refine j_iload cx (pc := 450) dL_law_450 5 rfl ?_
    refine j_iload cx (pc := 452) dL_law_452 4 rfl ?_
    refine j_iload cx (pc := 454) dL_law_454 3 rfl ?_
    refine j_iload cx (pc := 456) dL_law_456 2 rfl ?_
    obtain ⟨fr, lo, hf, hlo, hM⟩ := hcall4 l D Y ad
    refine j_csi cx (pc := 458) 5 hM gL_law_L_call rfl (by decide +kernel) rfl ⟨show fr + 1 ≤ 10 by omega, show 8 + (5 + 11) + lo ≤ 390 by omega⟩ (List.range 87) (FBx_s Y ad _ _) nd_range87 (Bs' := FB Y ad F4 ++ [lwB Y la G]) (FBx_p Y ad _ _ _) A1_FB rfl (Nat.le_of_ble_eq_true rfl) dL_law_458 hcs ?_
    refine j_iload cx (pc := 461) dL_law_461 0 rfl ?_
    refine j_icmp_eq cx (pc := 463) (tgt := 468) dL_law_463 (by decide) (fun _ => K468 F4 M4 ⟨wh4, lq4, phi4⟩) (fun q => absurd rfl q)
  · have z' : r < 0 := Int32.not_le.mp z
    have q2 : Gd (cN + 1) (F2 0) (M 1) := Gd_m wh2.1 (fun j hj => (neg2 z' j hj).symm)
    have w2 := Gd_wf q2
    refine j_aload_n cx (pc := 409) dL_law_409 8 rfl ?_
    refine j_csl cx (pc := 410) 1 (c_L_told l D Y ad F2 w2.2.1 w2.1) gL_law_L_told rfl (by decide +kernel) rfl ⟨Nat.le_of_ble_eq_true rfl, Nat.le_of_ble_eq_true rfl⟩ (List.range 87) (FBx_s Y ad _ _) nd_range87 (FBx_p Y ad _ _ _) A1_FB rfl (Nat.le_of_ble_eq_true rfl) dL_law_410 hcs ?_
    refine j_lload cx (pc := 413) dL_law_413 1 rfl ?_
    refine j_lcmp cx (pc := 415) dL_law_415 ?_
    rw [told_same g q2 ts.2.1, lg_self]
    exact j_if_eq cx (pc := 416) (tgt := 468) dL_law_416 (by decide) (fun _ => K468 F2 M2 t2) (fun q => absurd rfl q)
end LTAIL
