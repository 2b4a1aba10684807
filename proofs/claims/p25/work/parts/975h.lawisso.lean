/-- what the law asks of the class's answers, link by link -/
def SoL (F : Nat → Nat → Nat → Int32) (G : Nat → Nat → Int32) (k : Nat) : Prop := (∀ w, w < 3 → C7_link F (nI k) (nI w) = G 1 ((3 * k) + w)) ∧ C7_link F (nI k) (nI 3) = G 2 (6 * k) ∧ C7_link F (nI k) (nI 4) = G 2 ((6 * k) + 3) ∧ C7_link F (nI k) (nI 5) = G 2 ((6 * k) + 4) ∧ C7_link F (nI k) (nI 6) = G 2 ((6 * k) + 1) ∧ C7_link F (nI k) (nI 7) = G 2 ((6 * k) + 2) ∧ C7_link F (nI k) (nI 8) = G 2 ((6 * k) + 5) ∧ C7_link F (nI k) (nI 9) = G 3 (3 * k) ∧ C7_link F (nI k) (nI 10) = G 3 ((3 * k) + 1) ∧ C7_link F (nI k) (nI 11) = G 3 ((3 * k) + 2) ∧ C7_link F (nI k) (nI 12) = if (G 1 (3 * k)) + (G 0 0) < G 1 ((3 * k) + 2) then nI 0 else nI 1
/-- the least time, as the law looks for it -/
def lsL (t : Nat → Int32) : Nat → Nat → Int32 → Int32
  | 0, _, x => x
  | q + 1, k, x => lsL t q (k + 1) (if x < 0 then t k else if t k < x then t k else x)
def SoR (F : Nat → Nat → Nat → Int32) (G : Nat → Nat → Int32) : Prop := (∀ w, w < 3 → C7_total F (nI (10 + w)) = G 0 w) ∧ (∀ w, w < 3 → C7_noted F (nI 0) (nI w) = if G 0 5 = 0 then (-5) else G 8 w) ∧ (∀ k, k < tN (G 0 3) → C7_stage F (nI k) = if G 3 (21 + k) < 0 then (-5) else G 3 (21 + k)) ∧ (∀ k, k < 2 → ∀ j, j < 21 → C7_waiting F (nI k) (nI j) = if j < tN (G 0 (11 + k)) then G 4 ((20 * k) + j) else (-5)) ∧ C7_next F = lsL (G 6) (tN (G 0 10)) 0 (-5)
def SoT (F : Nat → Nat → Nat → Int32) (G : Nat → Nat → Int32) : Prop := C7_total F (nI 0) = G 0 3 ∧ C7_total F (nI 1) = G 0 4 ∧ C7_total F (nI 2) = (G 0 11) + (G 0 12) ∧ C7_total F (nI 3) = CL_fullOnes G ∧ C7_total F (nI 4) = G 0 10 ∧ C7_total F (nI 5) = G 3 2 ∧ C7_total F (nI 6) = G 0 5 ∧ C7_total F (nI 7) = G 0 6 ∧ C7_total F (nI 8) = G 0 7 ∧ C7_total F (nI 9) = G 0 8
set_option maxHeartbeats 4000000 in
set_option maxRecDepth 100000 in
theorem c_L_isSo (l : Launch) (D : va_G) (Y : Nat → ClassId) (ad : Nat → Nat → Nat) (la : Nat → Nat) (F : Nat → Nat → Nat → Int32) (G : Nat → Nat → Int32) (x : Int32) (hst : vp_in (F 0 0 0) 7) (hr0 : vp_in (F 0 27 0) 21) (hr1 : vp_in (F 0 28 0) 21) (hnt : ¬ F 0 7 0 < 0) (hc : chOK (chU (F 0))) (sg0 : vp_in (G 0 3) 7) (hg1 : 1 ≤ tN (G 0 3)) (cn0 : vp_in (G 0 10) 62) (hrw2 : ∀ k, k < 2 → vp_in (G 0 (11 + k)) 21) (hL : ∀ k, k ≤ tN (G 0 3) → SoL F G k) (hR : SoR F G) (hT : SoT F G) : CtI l yL_isSo wsL_isSo 2 45 D (tyL Y) (FB Y ad F ++ [lwB Y la G]) [.ref (ad 8 2), .int x, .ref (la 0), .ref (la 1), .ref (la 2), .ref (la 3), .ref (la 4), .ref (la 6), .ref (la 8)] (nI 1) (FB Y ad F ++ [lwB Y la G]) := by
  refine CtI.intro (own := RL) (cc := cL_isSo) (maxL := 15) rfl (by decide +kernel) rfl (Nat.le_of_ble_eq_true rfl) (fun p e s m args below meth c A Q hA hQ cx hr => ?_)
  have hsb := inL sg0
  have hcb := inL cn0
  obtain ⟨ht, hn, hstg, hwt, hnext⟩ := hR
  obtain ⟨t0, t1, t2, t3, t4, t5, t6, t7, t8, t9⟩ := hT
  obtain ⟨lk, hlk⟩ : ∃ z : Nat, CL_low x (tN (G 0 3) + 1) = z := ⟨_, rfl⟩
  have blk : lk < tN (G 0 3) + 1 := by rw [← hlk]; exact low_lt _ (by omega)
  obtain ⟨l0, l3, l4, l5, l6, l7, l8, l9, l10, l11, l12⟩ := hL lk (by omega)
  have K503 : J p l e { frames := 2, cells := 0, slots := 0, locals := 45 } s m args below meth c 15 D A 0 0 Q (FB Y ad F ++ [lwB Y la G]) 503 [(0, .ref (ad 8 2)), (1, .int x), (2, .ref (la 0)), (3, .ref (la 1)), (4, .ref (la 2)), (5, .ref (la 3)), (6, .ref (la 4)), (7, .ref (la 6)), (8, .ref (la 8))] [.int (nI 1)] := by
    refine j_istore cx (pc := 503) (lv' := [(10, .int (nI 1)), (0, .ref (ad 8 2)), (1, .int x), (2, .ref (la 0)), (3, .ref (la 1)), (4, .ref (la 2)), (5, .ref (la 3)), (6, .ref (la 4)), (7, .ref (la 6)), (8, .ref (la 8))]) dL_isSo_503 (by decide) rfl ?_
    refine j_iload cx (pc := 505) dL_isSo_505 0 rfl ?_
    refine j_ifN_eq cx (pc := 507) (by decide) (tgt := 642) dL_isSo_507 (by decide) (fun c507_1 => by exfalso; revert c507_1; decide) (fun c507_1 => ?_)
    refine j_aload_n cx (pc := 510) dL_isSo_510 1 rfl ?_
    refine j_iconst cx (pc := 511) (v := (nI 0)) dL_isSo_511 (by decide) ?_
    refine j_calli cx (pc := 512) 1 (c_X7_total l D Y ad F (nI 0) hst) gL_isSo_X7_total rfl (by decide +kernel) rfl ⟨Nat.le_of_ble_eq_true rfl, Nat.le_of_ble_eq_true rfl⟩ (List.range 87) (FBx_s Y ad F _) nd_range87 (Bs' := FB Y ad F ++ [lwB Y la G]) (putL_same (FBx_s Y ad F _)) rfl 85 0 rfl rfl rfl rfl (Nat.le_of_ble_eq_true rfl) dL_isSo_512 ⟨Nat.zero_le _, Nat.zero_le _⟩ ?_
    refine j_aload_n cx (pc := 515) dL_isSo_515 3 rfl ?_
    refine j_iconst cx (pc := 516) (v := (nI 3)) dL_isSo_516 (by decide) ?_
    refine j_iald cx (pc := 517) 87 0 0 (FBx_87 Y ad _ _) rfl rfl (by decide) (by decide) dL_isSo_517 ?_
    refine j_icmp_ne cx (pc := 518) (tgt := 642) dL_isSo_518 (by decide) (fun c518_2 => by exfalso; exact c518_2 (t0)) (fun c518_2 => ?_)
    refine j_aload_n cx (pc := 521) dL_isSo_521 1 rfl ?_
    refine j_iconst cx (pc := 522) (v := (nI 1)) dL_isSo_522 (by decide) ?_
    refine j_calli cx (pc := 523) 1 (c_X7_total l D Y ad F (nI 1) hst) gL_isSo_X7_total rfl (by decide +kernel) rfl ⟨Nat.le_of_ble_eq_true rfl, Nat.le_of_ble_eq_true rfl⟩ (List.range 87) (FBx_s Y ad F _) nd_range87 (Bs' := FB Y ad F ++ [lwB Y la G]) (putL_same (FBx_s Y ad F _)) rfl 85 0 rfl rfl rfl rfl (Nat.le_of_ble_eq_true rfl) dL_isSo_523 ⟨Nat.zero_le _, Nat.zero_le _⟩ ?_
    refine j_aload_n cx (pc := 526) dL_isSo_526 3 rfl ?_
    refine j_iconst cx (pc := 527) (v := (nI 4)) dL_isSo_527 (by decide) ?_
    refine j_iald cx (pc := 528) 87 0 0 (FBx_87 Y ad _ _) rfl rfl (by decide) (by decide) dL_isSo_528 ?_
    refine j_icmp_ne cx (pc := 529) (tgt := 642) dL_isSo_529 (by decide) (fun c529_3 => by exfalso; exact c529_3 (t1)) (fun c529_3 => ?_)
    refine j_aload_n cx (pc := 532) dL_isSo_532 1 rfl ?_
    refine j_iconst cx (pc := 533) (v := (nI 2)) dL_isSo_533 (by decide) ?_
    refine j_calli cx (pc := 534) 1 (c_X7_total l D Y ad F (nI 2) hst) gL_isSo_X7_total rfl (by decide +kernel) rfl ⟨Nat.le_of_ble_eq_true rfl, Nat.le_of_ble_eq_true rfl⟩ (List.range 87) (FBx_s Y ad F _) nd_range87 (Bs' := FB Y ad F ++ [lwB Y la G]) (putL_same (FBx_s Y ad F _)) rfl 85 0 rfl rfl rfl rfl (Nat.le_of_ble_eq_true rfl) dL_isSo_534 ⟨Nat.zero_le _, Nat.zero_le _⟩ ?_
    refine j_aload_n cx (pc := 537) dL_isSo_537 3 rfl ?_
    refine j_bipush cx (pc := 538) (v := (nI 11)) dL_isSo_538 (by decide) ?_
    refine j_iald cx (pc := 540) 87 0 0 (FBx_87 Y ad _ _) rfl rfl (by decide) (by decide) dL_isSo_540 ?_
    refine j_aload_n cx (pc := 541) dL_isSo_541 3 rfl ?_
    refine j_bipush cx (pc := 542) (v := (nI 12)) dL_isSo_542 (by decide) ?_
    refine j_iald cx (pc := 544) 87 0 0 (FBx_87 Y ad _ _) rfl rfl (by decide) (by decide) dL_isSo_544 ?_
    refine j_iadd cx (pc := 545) dL_isSo_545 ?_
    refine j_icmp_ne cx (pc := 546) (tgt := 642) dL_isSo_546 (by decide) (fun c546_4 => by exfalso; exact c546_4 (t2)) (fun c546_4 => ?_)
    refine j_aload_n cx (pc := 549) dL_isSo_549 1 rfl ?_
    refine j_iconst cx (pc := 550) (v := (nI 3)) dL_isSo_550 (by decide) ?_
    refine j_calli cx (pc := 551) 1 (c_X7_total l D Y ad F (nI 3) hst) gL_isSo_X7_total rfl (by decide +kernel) rfl ⟨Nat.le_of_ble_eq_true rfl, Nat.le_of_ble_eq_true rfl⟩ (List.range 87) (FBx_s Y ad F _) nd_range87 (Bs' := FB Y ad F ++ [lwB Y la G]) (putL_same (FBx_s Y ad F _)) rfl 85 0 rfl rfl rfl rfl (Nat.le_of_ble_eq_true rfl) dL_isSo_551 ⟨Nat.zero_le _, Nat.zero_le _⟩ ?_
    refine j_aload_n cx (pc := 554) dL_isSo_554 3 rfl ?_
    refine j_aload cx (pc := 555) dL_isSo_555 6 rfl ?_
    refine j_csi cx (pc := 557) 2 (c_L_fullOnes l D Y la G  sg0) gL_isSo_L_fullOnes rfl (by decide +kernel) rfl ⟨Nat.le_of_ble_eq_true rfl, Nat.le_of_ble_eq_true rfl⟩ [87] (FBx_s87 Y ad _ _) (by decide) (Bs' := FB Y ad F ++ [lwB Y la G]) (putL_same (FBx_s87 Y ad _ _)) rfl rfl (Nat.le_of_ble_eq_true rfl) dL_isSo_557 ⟨Nat.zero_le _, Nat.zero_le _⟩ ?_
    refine j_icmp_ne cx (pc := 560) (tgt := 642) dL_isSo_560 (by decide) (fun c560_5 => by exfalso; exact c560_5 (t3)) (fun c560_5 => ?_)
    refine j_aload_n cx (pc := 563) dL_isSo_563 1 rfl ?_
    refine j_iconst cx (pc := 564) (v := (nI 4)) dL_isSo_564 (by decide) ?_
    refine j_calli cx (pc := 565) 1 (c_X7_total l D Y ad F (nI 4) hst) gL_isSo_X7_total rfl (by decide +kernel) rfl ⟨Nat.le_of_ble_eq_true rfl, Nat.le_of_ble_eq_true rfl⟩ (List.range 87) (FBx_s Y ad F _) nd_range87 (Bs' := FB Y ad F ++ [lwB Y la G]) (putL_same (FBx_s Y ad F _)) rfl 85 0 rfl rfl rfl rfl (Nat.le_of_ble_eq_true rfl) dL_isSo_565 ⟨Nat.zero_le _, Nat.zero_le _⟩ ?_
    refine j_aload_n cx (pc := 568) dL_isSo_568 3 rfl ?_
    refine j_bipush cx (pc := 569) (v := (nI 10)) dL_isSo_569 (by decide) ?_
    refine j_iald cx (pc := 571) 87 0 0 (FBx_87 Y ad _ _) rfl rfl (by decide) (by decide) dL_isSo_571 ?_
    refine j_icmp_ne cx (pc := 572) (tgt := 642) dL_isSo_572 (by decide) (fun c572_6 => by exfalso; exact c572_6 (t4)) (fun c572_6 => ?_)
    refine j_aload_n cx (pc := 575) dL_isSo_575 1 rfl ?_
    refine j_iconst cx (pc := 576) (v := (nI 5)) dL_isSo_576 (by decide) ?_
    refine j_calli cx (pc := 577) 1 (c_X7_total l D Y ad F (nI 5) hst) gL_isSo_X7_total rfl (by decide +kernel) rfl ⟨Nat.le_of_ble_eq_true rfl, Nat.le_of_ble_eq_true rfl⟩ (List.range 87) (FBx_s Y ad F _) nd_range87 (Bs' := FB Y ad F ++ [lwB Y la G]) (putL_same (FBx_s Y ad F _)) rfl 85 0 rfl rfl rfl rfl (Nat.le_of_ble_eq_true rfl) dL_isSo_577 ⟨Nat.zero_le _, Nat.zero_le _⟩ ?_
    refine j_aload cx (pc := 580) dL_isSo_580 6 rfl ?_
    refine j_iconst cx (pc := 582) (v := (nI 2)) dL_isSo_582 (by decide) ?_
    refine j_iald cx (pc := 583) 87 3 0 (FBx_87 Y ad _ _) rfl rfl (by decide) (by decide) dL_isSo_583 ?_
    refine j_icmp_ne cx (pc := 584) (tgt := 642) dL_isSo_584 (by decide) (fun c584_7 => by exfalso; exact c584_7 (t5)) (fun c584_7 => ?_)
    refine j_aload_n cx (pc := 587) dL_isSo_587 1 rfl ?_
    refine j_bipush cx (pc := 588) (v := (nI 6)) dL_isSo_588 (by decide) ?_
    refine j_calli cx (pc := 590) 1 (c_X7_total l D Y ad F (nI 6) hst) gL_isSo_X7_total rfl (by decide +kernel) rfl ⟨Nat.le_of_ble_eq_true rfl, Nat.le_of_ble_eq_true rfl⟩ (List.range 87) (FBx_s Y ad F _) nd_range87 (Bs' := FB Y ad F ++ [lwB Y la G]) (putL_same (FBx_s Y ad F _)) rfl 85 0 rfl rfl rfl rfl (Nat.le_of_ble_eq_true rfl) dL_isSo_590 ⟨Nat.zero_le _, Nat.zero_le _⟩ ?_
    refine j_aload_n cx (pc := 593) dL_isSo_593 3 rfl ?_
    refine j_iconst cx (pc := 594) (v := (nI 5)) dL_isSo_594 (by decide) ?_
    refine j_iald cx (pc := 595) 87 0 0 (FBx_87 Y ad _ _) rfl rfl (by decide) (by decide) dL_isSo_595 ?_
    refine j_icmp_ne cx (pc := 596) (tgt := 642) dL_isSo_596 (by decide) (fun c596_8 => by exfalso; exact c596_8 (t6)) (fun c596_8 => ?_)
    refine j_aload_n cx (pc := 599) dL_isSo_599 1 rfl ?_
    refine j_bipush cx (pc := 600) (v := (nI 7)) dL_isSo_600 (by decide) ?_
    refine j_calli cx (pc := 602) 1 (c_X7_total l D Y ad F (nI 7) hst) gL_isSo_X7_total rfl (by decide +kernel) rfl ⟨Nat.le_of_ble_eq_true rfl, Nat.le_of_ble_eq_true rfl⟩ (List.range 87) (FBx_s Y ad F _) nd_range87 (Bs' := FB Y ad F ++ [lwB Y la G]) (putL_same (FBx_s Y ad F _)) rfl 85 0 rfl rfl rfl rfl (Nat.le_of_ble_eq_true rfl) dL_isSo_602 ⟨Nat.zero_le _, Nat.zero_le _⟩ ?_
    refine j_aload_n cx (pc := 605) dL_isSo_605 3 rfl ?_
    refine j_bipush cx (pc := 606) (v := (nI 6)) dL_isSo_606 (by decide) ?_
    refine j_iald cx (pc := 608) 87 0 0 (FBx_87 Y ad _ _) rfl rfl (by decide) (by decide) dL_isSo_608 ?_
    refine j_icmp_ne cx (pc := 609) (tgt := 642) dL_isSo_609 (by decide) (fun c609_9 => by exfalso; exact c609_9 (t7)) (fun c609_9 => ?_)
    refine j_aload_n cx (pc := 612) dL_isSo_612 1 rfl ?_
    refine j_bipush cx (pc := 613) (v := (nI 8)) dL_isSo_613 (by decide) ?_
    refine j_calli cx (pc := 615) 1 (c_X7_total l D Y ad F (nI 8) hst) gL_isSo_X7_total rfl (by decide +kernel) rfl ⟨Nat.le_of_ble_eq_true rfl, Nat.le_of_ble_eq_true rfl⟩ (List.range 87) (FBx_s Y ad F _) nd_range87 (Bs' := FB Y ad F ++ [lwB Y la G]) (putL_same (FBx_s Y ad F _)) rfl 85 0 rfl rfl rfl rfl (Nat.le_of_ble_eq_true rfl) dL_isSo_615 ⟨Nat.zero_le _, Nat.zero_le _⟩ ?_
    refine j_aload_n cx (pc := 618) dL_isSo_618 3 rfl ?_
    refine j_bipush cx (pc := 619) (v := (nI 7)) dL_isSo_619 (by decide) ?_
    refine j_iald cx (pc := 621) 87 0 0 (FBx_87 Y ad _ _) rfl rfl (by decide) (by decide) dL_isSo_621 ?_
    refine j_icmp_ne cx (pc := 622) (tgt := 642) dL_isSo_622 (by decide) (fun c622_10 => by exfalso; exact c622_10 (t8)) (fun c622_10 => ?_)
    refine j_aload_n cx (pc := 625) dL_isSo_625 1 rfl ?_
    refine j_bipush cx (pc := 626) (v := (nI 9)) dL_isSo_626 (by decide) ?_
    refine j_calli cx (pc := 628) 1 (c_X7_total l D Y ad F (nI 9) hst) gL_isSo_X7_total rfl (by decide +kernel) rfl ⟨Nat.le_of_ble_eq_true rfl, Nat.le_of_ble_eq_true rfl⟩ (List.range 87) (FBx_s Y ad F _) nd_range87 (Bs' := FB Y ad F ++ [lwB Y la G]) (putL_same (FBx_s Y ad F _)) rfl 85 0 rfl rfl rfl rfl (Nat.le_of_ble_eq_true rfl) dL_isSo_628 ⟨Nat.zero_le _, Nat.zero_le _⟩ ?_
    refine j_aload_n cx (pc := 631) dL_isSo_631 3 rfl ?_
    refine j_bipush cx (pc := 632) (v := (nI 8)) dL_isSo_632 (by decide) ?_
    refine j_iald cx (pc := 634) 87 0 0 (FBx_87 Y ad _ _) rfl rfl (by decide) (by decide) dL_isSo_634 ?_
    refine j_icmp_ne cx (pc := 635) (tgt := 642) dL_isSo_635 (by decide) (fun c635_11 => by exfalso; exact c635_11 (t9)) (fun c635_11 => ?_)
    refine j_iconst cx (pc := 638) (v := (nI 1)) dL_isSo_638 (by decide) ?_
    refine j_goto cx (pc := 639) (tgt := 643) dL_isSo_639 (by decide) ?_
    subst hQ; exact j_zret cx hr rfl rfl rfl hA dL_isSo_643
  have K378 : J p l e { frames := 2, cells := 0, slots := 0, locals := 45 } s m args below meth c 15 D A 0 0 Q (FB Y ad F ++ [lwB Y la G]) 378 [(11, .int (lsL (G 6) (tN (G 0 10)) 0 (-5))), (0, .ref (ad 8 2)), (1, .int x), (2, .ref (la 0)), (3, .ref (la 1)), (4, .ref (la 2)), (5, .ref (la 3)), (6, .ref (la 4)), (7, .ref (la 6)), (8, .ref (la 8))] [.int (nI 1)] := by
    refine j_istore cx (pc := 378) (lv' := [(10, .int (nI 1)), (11, .int (lsL (G 6) (tN (G 0 10)) 0 (-5))), (0, .ref (ad 8 2)), (1, .int x), (2, .ref (la 0)), (3, .ref (la 1)), (4, .ref (la 2)), (5, .ref (la 3)), (6, .ref (la 4)), (7, .ref (la 6)), (8, .ref (la 8))]) dL_isSo_378 (by decide) rfl ?_
    refine j_iload_n cx (pc := 380) dL_isSo_380 3 rfl ?_
    refine j_iconst cx (pc := 381) (v := (nI 3)) dL_isSo_381 (by decide) ?_
    refine j_ishr cx (pc := 382) dL_isSo_382 ?_
    refine j_aload_n cx (pc := 383) dL_isSo_383 4 rfl ?_
    refine j_iconst cx (pc := 384) (v := (nI 3)) dL_isSo_384 (by decide) ?_
    refine j_iald cx (pc := 385) 87 0 0 (FBx_87 Y ad _ _) rfl rfl (by decide) (by decide) dL_isSo_385 ?_
    refine j_top (show (G 0 3) = (nI (tN (G 0 3))) from inN sg0) ?_
    refine j_calls cx (pc := 386) 2 (c_L_low l D Y (x >>> ((nI 3) &&& 31)) (tN (G 0 3)) (by omega) (by omega)) gL_isSo_L_low rfl (by decide +kernel) rfl ⟨Nat.le_of_ble_eq_true rfl, Nat.le_of_ble_eq_true rfl⟩ rfl (Nat.le_of_ble_eq_true rfl) dL_isSo_386 ⟨Nat.zero_le _, Nat.zero_le _⟩ ?_
    obtain ⟨sta, hsta⟩ : ∃ z : Nat, z = (CL_low (x >>> ((nI 3) &&& 31)) (tN (G 0 3))) := ⟨_, rfl⟩
    refine j_top (show (nI (CL_low (x >>> ((nI 3) &&& 31)) (tN (G 0 3)))) = (nI sta) from (by rw [hsta])) ?_
    have bsta : sta < tN (G 0 3) := by rw [hsta]; exact low_lt _ (by omega)
    refine j_istore cx (pc := 389) (lv' := [(12, .int (nI sta)), (10, .int (nI 1)), (11, .int (lsL (G 6) (tN (G 0 10)) 0 (-5))), (0, .ref (ad 8 2)), (1, .int x), (2, .ref (la 0)), (3, .ref (la 1)), (4, .ref (la 2)), (5, .ref (la 3)), (6, .ref (la 4)), (7, .ref (la 6)), (8, .ref (la 8))]) dL_isSo_389 (by decide) rfl ?_
    refine j_iload_n cx (pc := 391) dL_isSo_391 4 rfl ?_
    refine j_bipush cx (pc := 392) (v := (nI 6)) dL_isSo_392 (by decide) ?_
    refine j_ishr cx (pc := 394) dL_isSo_394 ?_
    refine j_iconst cx (pc := 395) (v := (nI 2)) dL_isSo_395 (by decide) ?_
    refine j_calls cx (pc := 396) 2 (c_L_low l D Y (x >>> ((nI 6) &&& 31)) 2 (by omega) (by omega)) gL_isSo_L_low rfl (by decide +kernel) rfl ⟨Nat.le_of_ble_eq_true rfl, Nat.le_of_ble_eq_true rfl⟩ rfl (Nat.le_of_ble_eq_true rfl) dL_isSo_396 ⟨Nat.zero_le _, Nat.zero_le _⟩ ?_
    obtain ⟨se, hse⟩ : ∃ z : Nat, z = (CL_low (x >>> ((nI 6) &&& 31)) 2) := ⟨_, rfl⟩
    refine j_top (show (nI (CL_low (x >>> ((nI 6) &&& 31)) 2)) = (nI se) from (by rw [hse])) ?_
    have bse : se < 2 := by rw [hse]; exact low_lt _ (by omega)
    refine j_istore cx (pc := 399) (lv' := [(13, .int (nI se)), (12, .int (nI sta)), (10, .int (nI 1)), (11, .int (lsL (G 6) (tN (G 0 10)) 0 (-5))), (0, .ref (ad 8 2)), (1, .int x), (2, .ref (la 0)), (3, .ref (la 1)), (4, .ref (la 2)), (5, .ref (la 3)), (6, .ref (la 4)), (7, .ref (la 6)), (8, .ref (la 8))]) dL_isSo_399 (by decide) rfl ?_
    refine j_iload_n cx (pc := 401) dL_isSo_401 5 rfl ?_
    refine j_bipush cx (pc := 402) (v := (nI 7)) dL_isSo_402 (by decide) ?_
    refine j_ishr cx (pc := 404) dL_isSo_404 ?_
    refine j_bipush cx (pc := 405) (v := (nI 21)) dL_isSo_405 (by decide) ?_
    refine j_calls cx (pc := 407) 2 (c_L_low l D Y (x >>> ((nI 7) &&& 31)) 21 (by omega) (by omega)) gL_isSo_L_low rfl (by decide +kernel) rfl ⟨Nat.le_of_ble_eq_true rfl, Nat.le_of_ble_eq_true rfl⟩ rfl (Nat.le_of_ble_eq_true rfl) dL_isSo_407 ⟨Nat.zero_le _, Nat.zero_le _⟩ ?_
    obtain ⟨pl, hpl⟩ : ∃ z : Nat, z = (CL_low (x >>> ((nI 7) &&& 31)) 21) := ⟨_, rfl⟩
    refine j_top (show (nI (CL_low (x >>> ((nI 7) &&& 31)) 21)) = (nI pl) from (by rw [hpl])) ?_
    have bpl : pl < 21 := by rw [hpl]; exact low_lt _ (by omega)
    refine j_istore cx (pc := 410) (lv' := [(14, .int (nI pl)), (13, .int (nI se)), (12, .int (nI sta)), (10, .int (nI 1)), (11, .int (lsL (G 6) (tN (G 0 10)) 0 (-5))), (0, .ref (ad 8 2)), (1, .int x), (2, .ref (la 0)), (3, .ref (la 1)), (4, .ref (la 2)), (5, .ref (la 3)), (6, .ref (la 4)), (7, .ref (la 6)), (8, .ref (la 8))]) dL_isSo_410 (by decide) rfl ?_
    refine j_iload cx (pc := 412) dL_isSo_412 3 rfl ?_
    refine j_ifN_eq cx (pc := 414) (by decide) (tgt := 502) dL_isSo_414 (by decide) (fun c414_1 => by exfalso; revert c414_1; decide) (fun c414_1 => ?_)
    refine j_aload_n cx (pc := 417) dL_isSo_417 5 rfl ?_
    refine j_iload cx (pc := 418) dL_isSo_418 2 rfl ?_
    refine j_calli cx (pc := 420) 1 (c_X7_stage l D Y ad F (nI sta) hst) gL_isSo_X7_stage rfl (by decide +kernel) rfl ⟨Nat.le_of_ble_eq_true rfl, Nat.le_of_ble_eq_true rfl⟩ (List.range 87) (FBx_s Y ad F _) nd_range87 (Bs' := FB Y ad F ++ [lwB Y la G]) (putL_same (FBx_s Y ad F _)) rfl 85 0 rfl rfl rfl rfl (Nat.le_of_ble_eq_true rfl) dL_isSo_420 ⟨Nat.zero_le _, Nat.zero_le _⟩ ?_
    refine j_aload cx (pc := 423) dL_isSo_423 10 rfl ?_
    refine j_bipush cx (pc := 425) (v := (nI 21)) dL_isSo_425 (by decide) ?_
    refine j_iload cx (pc := 427) dL_isSo_427 2 rfl ?_
    refine j_iaddN cx (pc := 429) dL_isSo_429 ?_
    refine j_iald cx (pc := 430) 87 3 0 (FBx_87 Y ad _ _) rfl rfl (by omega) (by decide) dL_isSo_430 ?_
    refine j_if_ge cx (pc := 431) (tgt := 439) dL_isSo_431 (by decide) (fun c431_2 => ?_) (fun c431_2 => ?_)
    · skip
      refine j_aload cx (pc := 439) dL_isSo_439 10 rfl ?_
      refine j_bipush cx (pc := 441) (v := (nI 21)) dL_isSo_441 (by decide) ?_
      refine j_iload cx (pc := 443) dL_isSo_443 2 rfl ?_
      refine j_iaddN cx (pc := 445) dL_isSo_445 ?_
      refine j_iald cx (pc := 446) 87 3 0 (FBx_87 Y ad _ _) rfl rfl (by omega) (by decide) dL_isSo_446 ?_
      refine j_icmp_ne cx (pc := 447) (tgt := 502) dL_isSo_447 (by decide) (fun c447_3 => by exfalso; exact c447_3 (by rw [hstg sta bsta]; first | rw [if_neg (Int32.not_lt.mpr (by assumption))] | rw [if_pos (Int32.not_le.mp (by assumption))])) (fun c447_3 => ?_)
      refine j_aload_n cx (pc := 450) dL_isSo_450 5 rfl ?_
      refine j_iload cx (pc := 451) dL_isSo_451 1 rfl ?_
      refine j_iload cx (pc := 453) dL_isSo_453 0 rfl ?_
      refine j_calli cx (pc := 455) 2 (c_X7_waiting l D Y ad F (nI se) (nI pl) hr0 hr1) gL_isSo_X7_waiting rfl (by decide +kernel) rfl ⟨Nat.le_of_ble_eq_true rfl, Nat.le_of_ble_eq_true rfl⟩ (List.range 87) (FBx_s Y ad F _) nd_range87 (Bs' := FB Y ad F ++ [lwB Y la G]) (putL_same (FBx_s Y ad F _)) rfl 85 0 rfl rfl rfl rfl (Nat.le_of_ble_eq_true rfl) dL_isSo_455 ⟨Nat.zero_le _, Nat.zero_le _⟩ ?_
      refine j_iload cx (pc := 458) dL_isSo_458 0 rfl ?_
      refine j_aload_n cx (pc := 460) dL_isSo_460 7 rfl ?_
      refine j_bipush cx (pc := 461) (v := (nI 11)) dL_isSo_461 (by decide) ?_
      refine j_iload cx (pc := 463) dL_isSo_463 1 rfl ?_
      refine j_iaddN cx (pc := 465) dL_isSo_465 ?_
      refine j_iald cx (pc := 466) 87 0 0 (FBx_87 Y ad _ _) rfl rfl (by omega) (by decide) dL_isSo_466 ?_
      have hrw : vp_in (G 0 (11 + se)) 21 := hrw2 se bse
      have hrwl := inL hrw
      refine j_top (show (G 0 (11 + se)) = (nI (tN (G 0 (11 + se)))) from inN hrw) ?_
      refine j_icmpN_ge cx (pc := 467) (by omega) (by omega) (tgt := 484) dL_isSo_467 (by decide) (fun c467_4 => ?_) (fun c467_4 => ?_)
      · skip
        refine j_bipush cx (pc := 484) (v := (-5)) dL_isSo_484 (by decide) ?_
        refine j_icmp_ne cx (pc := 486) (tgt := 502) dL_isSo_486 (by decide) (fun c486_5 => by exfalso; exact c486_5 (by rw [hwt se bse pl bpl]; first | rw [if_pos (by omega)] | rw [if_neg (by omega)])) (fun c486_5 => ?_)
        refine j_aload_n cx (pc := 489) dL_isSo_489 5 rfl ?_
        refine j_calli cx (pc := 490) 0 (c_X7_next l D Y ad F  hc) gL_isSo_X7_next rfl (by decide +kernel) rfl ⟨Nat.le_of_ble_eq_true rfl, Nat.le_of_ble_eq_true rfl⟩ (List.range 87) (FBx_s Y ad F _) nd_range87 (Bs' := FB Y ad F ++ [lwB Y la G]) (putL_same (FBx_s Y ad F _)) rfl 85 0 rfl rfl rfl rfl (Nat.le_of_ble_eq_true rfl) dL_isSo_490 ⟨Nat.zero_le _, Nat.zero_le _⟩ ?_
        refine j_iload cx (pc := 493) dL_isSo_493 4 rfl ?_
        refine j_icmp_ne cx (pc := 495) (tgt := 502) dL_isSo_495 (by decide) (fun c495_6 => by exfalso; exact c495_6 (hnext)) (fun c495_6 => ?_)
        refine j_iconst cx (pc := 498) (v := (nI 1)) dL_isSo_498 (by decide) ?_
        refine j_goto cx (pc := 499) (tgt := 503) dL_isSo_499 (by decide) ?_
        refine j_lvm (lv' := [(0, .ref (ad 8 2)), (1, .int x), (2, .ref (la 0)), (3, .ref (la 1)), (4, .ref (la 2)), (5, .ref (la 3)), (6, .ref (la 4)), (7, .ref (la 6)), (8, .ref (la 8))]) (by intro z hz; simp only [List.mem_cons, List.not_mem_nil, or_false] at hz ⊢; rcases hz with rfl | rfl | rfl | rfl | rfl | rfl | rfl | rfl | rfl <;> simp) ?_
        exact K503
      · skip
        refine j_aload cx (pc := 470) dL_isSo_470 11 rfl ?_
        refine j_bipush cx (pc := 472) (v := (nI 20)) dL_isSo_472 (by decide) ?_
        refine j_iload cx (pc := 474) dL_isSo_474 1 rfl ?_
        refine j_imulN cx (pc := 476) dL_isSo_476 ?_
        refine j_iload cx (pc := 477) dL_isSo_477 0 rfl ?_
        refine j_iaddN cx (pc := 479) dL_isSo_479 ?_
        refine j_iald cx (pc := 480) 87 4 0 (FBx_87 Y ad _ _) rfl rfl (by omega) (by decide) dL_isSo_480 ?_
        refine j_goto cx (pc := 481) (tgt := 486) dL_isSo_481 (by decide) ?_
        refine j_icmp_ne cx (pc := 486) (tgt := 502) dL_isSo_486 (by decide) (fun c486_7 => by exfalso; exact c486_7 (by rw [hwt se bse pl bpl]; first | rw [if_pos (by omega)] | rw [if_neg (by omega)])) (fun c486_7 => ?_)
        refine j_aload_n cx (pc := 489) dL_isSo_489 5 rfl ?_
        refine j_calli cx (pc := 490) 0 (c_X7_next l D Y ad F  hc) gL_isSo_X7_next rfl (by decide +kernel) rfl ⟨Nat.le_of_ble_eq_true rfl, Nat.le_of_ble_eq_true rfl⟩ (List.range 87) (FBx_s Y ad F _) nd_range87 (Bs' := FB Y ad F ++ [lwB Y la G]) (putL_same (FBx_s Y ad F _)) rfl 85 0 rfl rfl rfl rfl (Nat.le_of_ble_eq_true rfl) dL_isSo_490 ⟨Nat.zero_le _, Nat.zero_le _⟩ ?_
        refine j_iload cx (pc := 493) dL_isSo_493 4 rfl ?_
        refine j_icmp_ne cx (pc := 495) (tgt := 502) dL_isSo_495 (by decide) (fun c495_8 => by exfalso; exact c495_8 (hnext)) (fun c495_8 => ?_)
        refine j_iconst cx (pc := 498) (v := (nI 1)) dL_isSo_498 (by decide) ?_
        refine j_goto cx (pc := 499) (tgt := 503) dL_isSo_499 (by decide) ?_
        refine j_lvm (lv' := [(0, .ref (ad 8 2)), (1, .int x), (2, .ref (la 0)), (3, .ref (la 1)), (4, .ref (la 2)), (5, .ref (la 3)), (6, .ref (la 4)), (7, .ref (la 6)), (8, .ref (la 8))]) (by intro z hz; simp only [List.mem_cons, List.not_mem_nil, or_false] at hz ⊢; rcases hz with rfl | rfl | rfl | rfl | rfl | rfl | rfl | rfl | rfl <;> simp) ?_
        exact K503
    · skip
      refine j_bipush cx (pc := 434) (v := (-5)) dL_isSo_434 (by decide) ?_
      refine j_goto cx (pc := 436) (tgt := 447) dL_isSo_436 (by decide) ?_
      refine j_icmp_ne cx (pc := 447) (tgt := 502) dL_isSo_447 (by decide) (fun c447_9 => by exfalso; exact c447_9 (by rw [hstg sta bsta]; first | rw [if_neg (Int32.not_lt.mpr (by assumption))] | rw [if_pos (Int32.not_le.mp (by assumption))])) (fun c447_9 => ?_)
      refine j_aload_n cx (pc := 450) dL_isSo_450 5 rfl ?_
      refine j_iload cx (pc := 451) dL_isSo_451 1 rfl ?_
      refine j_iload cx (pc := 453) dL_isSo_453 0 rfl ?_
      refine j_calli cx (pc := 455) 2 (c_X7_waiting l D Y ad F (nI se) (nI pl) hr0 hr1) gL_isSo_X7_waiting rfl (by decide +kernel) rfl ⟨Nat.le_of_ble_eq_true rfl, Nat.le_of_ble_eq_true rfl⟩ (List.range 87) (FBx_s Y ad F _) nd_range87 (Bs' := FB Y ad F ++ [lwB Y la G]) (putL_same (FBx_s Y ad F _)) rfl 85 0 rfl rfl rfl rfl (Nat.le_of_ble_eq_true rfl) dL_isSo_455 ⟨Nat.zero_le _, Nat.zero_le _⟩ ?_
      refine j_iload cx (pc := 458) dL_isSo_458 0 rfl ?_
      refine j_aload_n cx (pc := 460) dL_isSo_460 7 rfl ?_
      refine j_bipush cx (pc := 461) (v := (nI 11)) dL_isSo_461 (by decide) ?_
      refine j_iload cx (pc := 463) dL_isSo_463 1 rfl ?_
      refine j_iaddN cx (pc := 465) dL_isSo_465 ?_
      refine j_iald cx (pc := 466) 87 0 0 (FBx_87 Y ad _ _) rfl rfl (by omega) (by decide) dL_isSo_466 ?_
      have hrw : vp_in (G 0 (11 + se)) 21 := hrw2 se bse
      have hrwl := inL hrw
      refine j_top (show (G 0 (11 + se)) = (nI (tN (G 0 (11 + se)))) from inN hrw) ?_
      refine j_icmpN_ge cx (pc := 467) (by omega) (by omega) (tgt := 484) dL_isSo_467 (by decide) (fun c467_10 => ?_) (fun c467_10 => ?_)
      · skip
        refine j_bipush cx (pc := 484) (v := (-5)) dL_isSo_484 (by decide) ?_
        refine j_icmp_ne cx (pc := 486) (tgt := 502) dL_isSo_486 (by decide) (fun c486_11 => by exfalso; exact c486_11 (by rw [hwt se bse pl bpl]; first | rw [if_pos (by omega)] | rw [if_neg (by omega)])) (fun c486_11 => ?_)
        refine j_aload_n cx (pc := 489) dL_isSo_489 5 rfl ?_
        refine j_calli cx (pc := 490) 0 (c_X7_next l D Y ad F  hc) gL_isSo_X7_next rfl (by decide +kernel) rfl ⟨Nat.le_of_ble_eq_true rfl, Nat.le_of_ble_eq_true rfl⟩ (List.range 87) (FBx_s Y ad F _) nd_range87 (Bs' := FB Y ad F ++ [lwB Y la G]) (putL_same (FBx_s Y ad F _)) rfl 85 0 rfl rfl rfl rfl (Nat.le_of_ble_eq_true rfl) dL_isSo_490 ⟨Nat.zero_le _, Nat.zero_le _⟩ ?_
        refine j_iload cx (pc := 493) dL_isSo_493 4 rfl ?_
        refine j_icmp_ne cx (pc := 495) (tgt := 502) dL_isSo_495 (by decide) (fun c495_12 => by exfalso; exact c495_12 (hnext)) (fun c495_12 => ?_)
        refine j_iconst cx (pc := 498) (v := (nI 1)) dL_isSo_498 (by decide) ?_
        refine j_goto cx (pc := 499) (tgt := 503) dL_isSo_499 (by decide) ?_
        refine j_lvm (lv' := [(0, .ref (ad 8 2)), (1, .int x), (2, .ref (la 0)), (3, .ref (la 1)), (4, .ref (la 2)), (5, .ref (la 3)), (6, .ref (la 4)), (7, .ref (la 6)), (8, .ref (la 8))]) (by intro z hz; simp only [List.mem_cons, List.not_mem_nil, or_false] at hz ⊢; rcases hz with rfl | rfl | rfl | rfl | rfl | rfl | rfl | rfl | rfl <;> simp) ?_
        exact K503
      · skip
        refine j_aload cx (pc := 470) dL_isSo_470 11 rfl ?_
        refine j_bipush cx (pc := 472) (v := (nI 20)) dL_isSo_472 (by decide) ?_
        refine j_iload cx (pc := 474) dL_isSo_474 1 rfl ?_
        refine j_imulN cx (pc := 476) dL_isSo_476 ?_
        refine j_iload cx (pc := 477) dL_isSo_477 0 rfl ?_
        refine j_iaddN cx (pc := 479) dL_isSo_479 ?_
        refine j_iald cx (pc := 480) 87 4 0 (FBx_87 Y ad _ _) rfl rfl (by omega) (by decide) dL_isSo_480 ?_
        refine j_goto cx (pc := 481) (tgt := 486) dL_isSo_481 (by decide) ?_
        refine j_icmp_ne cx (pc := 486) (tgt := 502) dL_isSo_486 (by decide) (fun c486_13 => by exfalso; exact c486_13 (by rw [hwt se bse pl bpl]; first | rw [if_pos (by omega)] | rw [if_neg (by omega)])) (fun c486_13 => ?_)
        refine j_aload_n cx (pc := 489) dL_isSo_489 5 rfl ?_
        refine j_calli cx (pc := 490) 0 (c_X7_next l D Y ad F  hc) gL_isSo_X7_next rfl (by decide +kernel) rfl ⟨Nat.le_of_ble_eq_true rfl, Nat.le_of_ble_eq_true rfl⟩ (List.range 87) (FBx_s Y ad F _) nd_range87 (Bs' := FB Y ad F ++ [lwB Y la G]) (putL_same (FBx_s Y ad F _)) rfl 85 0 rfl rfl rfl rfl (Nat.le_of_ble_eq_true rfl) dL_isSo_490 ⟨Nat.zero_le _, Nat.zero_le _⟩ ?_
        refine j_iload cx (pc := 493) dL_isSo_493 4 rfl ?_
        refine j_icmp_ne cx (pc := 495) (tgt := 502) dL_isSo_495 (by decide) (fun c495_14 => by exfalso; exact c495_14 (hnext)) (fun c495_14 => ?_)
        refine j_iconst cx (pc := 498) (v := (nI 1)) dL_isSo_498 (by decide) ?_
        refine j_goto cx (pc := 499) (tgt := 503) dL_isSo_499 (by decide) ?_
        refine j_lvm (lv' := [(0, .ref (ad 8 2)), (1, .int x), (2, .ref (la 0)), (3, .ref (la 1)), (4, .ref (la 2)), (5, .ref (la 3)), (6, .ref (la 4)), (7, .ref (la 6)), (8, .ref (la 8))]) (by intro z hz; simp only [List.mem_cons, List.not_mem_nil, or_false] at hz ⊢; rcases hz with rfl | rfl | rfl | rfl | rfl | rfl | rfl | rfl | rfl <;> simp) ?_
        exact K503
  have K152 : J p l e { frames := 2, cells := 0, slots := 0, locals := 45 } s m args below meth c 15 D A 0 0 Q (FB Y ad F ++ [lwB Y la G]) 152 [(10, .int (nI 1)), (11, .int (lsL (G 6) (tN (G 0 10)) 0 (-5))), (9, .int (nI lk)), (0, .ref (ad 8 2)), (1, .int x), (2, .ref (la 0)), (3, .ref (la 1)), (4, .ref (la 2)), (5, .ref (la 3)), (6, .ref (la 4)), (7, .ref (la 6)), (8, .ref (la 8))] [] := by
    refine j_iload cx (pc := 152) dL_isSo_152 0 rfl ?_
    refine j_ifN_eq cx (pc := 154) (by decide) (tgt := 377) dL_isSo_154 (by decide) (fun c154_1 => by exfalso; revert c154_1; decide) (fun c154_1 => ?_)
    refine j_aload_n cx (pc := 157) dL_isSo_157 3 rfl ?_
    refine j_iload cx (pc := 158) dL_isSo_158 2 rfl ?_
    refine j_iconst cx (pc := 160) (v := (nI 3)) dL_isSo_160 (by decide) ?_
    refine j_calli cx (pc := 161) 2 (c_X7_link l D Y ad F (nI lk) (nI 3) hst) gL_isSo_X7_link rfl (by decide +kernel) rfl ⟨Nat.le_of_ble_eq_true rfl, Nat.le_of_ble_eq_true rfl⟩ (List.range 87) (FBx_s Y ad F _) nd_range87 (Bs' := FB Y ad F ++ [lwB Y la G]) (putL_same (FBx_s Y ad F _)) rfl 85 0 rfl rfl rfl rfl (Nat.le_of_ble_eq_true rfl) dL_isSo_161 ⟨Nat.zero_le _, Nat.zero_le _⟩ ?_
    refine j_aload cx (pc := 164) dL_isSo_164 7 rfl ?_
    refine j_bipush cx (pc := 166) (v := (nI 6)) dL_isSo_166 (by decide) ?_
    refine j_iload cx (pc := 168) dL_isSo_168 2 rfl ?_
    refine j_imulN cx (pc := 170) dL_isSo_170 ?_
    refine j_iald cx (pc := 171) 87 2 0 (FBx_87 Y ad _ _) rfl rfl (by omega) (by decide) dL_isSo_171 ?_
    refine j_icmp_ne cx (pc := 172) (tgt := 377) dL_isSo_172 (by decide) (fun c172_2 => by exfalso; exact c172_2 (l3)) (fun c172_2 => ?_)
    refine j_aload_n cx (pc := 175) dL_isSo_175 3 rfl ?_
    refine j_iload cx (pc := 176) dL_isSo_176 2 rfl ?_
    refine j_iconst cx (pc := 178) (v := (nI 4)) dL_isSo_178 (by decide) ?_
    refine j_calli cx (pc := 179) 2 (c_X7_link l D Y ad F (nI lk) (nI 4) hst) gL_isSo_X7_link rfl (by decide +kernel) rfl ⟨Nat.le_of_ble_eq_true rfl, Nat.le_of_ble_eq_true rfl⟩ (List.range 87) (FBx_s Y ad F _) nd_range87 (Bs' := FB Y ad F ++ [lwB Y la G]) (putL_same (FBx_s Y ad F _)) rfl 85 0 rfl rfl rfl rfl (Nat.le_of_ble_eq_true rfl) dL_isSo_179 ⟨Nat.zero_le _, Nat.zero_le _⟩ ?_
    refine j_aload cx (pc := 182) dL_isSo_182 7 rfl ?_
    refine j_bipush cx (pc := 184) (v := (nI 6)) dL_isSo_184 (by decide) ?_
    refine j_iload cx (pc := 186) dL_isSo_186 2 rfl ?_
    refine j_imulN cx (pc := 188) dL_isSo_188 ?_
    refine j_iconst cx (pc := 189) (v := (nI 3)) dL_isSo_189 (by decide) ?_
    refine j_iaddN cx (pc := 190) dL_isSo_190 ?_
    refine j_iald cx (pc := 191) 87 2 0 (FBx_87 Y ad _ _) rfl rfl (by omega) (by decide) dL_isSo_191 ?_
    refine j_icmp_ne cx (pc := 192) (tgt := 377) dL_isSo_192 (by decide) (fun c192_3 => by exfalso; exact c192_3 (l4)) (fun c192_3 => ?_)
    refine j_aload_n cx (pc := 195) dL_isSo_195 3 rfl ?_
    refine j_iload cx (pc := 196) dL_isSo_196 2 rfl ?_
    refine j_iconst cx (pc := 198) (v := (nI 5)) dL_isSo_198 (by decide) ?_
    refine j_calli cx (pc := 199) 2 (c_X7_link l D Y ad F (nI lk) (nI 5) hst) gL_isSo_X7_link rfl (by decide +kernel) rfl ⟨Nat.le_of_ble_eq_true rfl, Nat.le_of_ble_eq_true rfl⟩ (List.range 87) (FBx_s Y ad F _) nd_range87 (Bs' := FB Y ad F ++ [lwB Y la G]) (putL_same (FBx_s Y ad F _)) rfl 85 0 rfl rfl rfl rfl (Nat.le_of_ble_eq_true rfl) dL_isSo_199 ⟨Nat.zero_le _, Nat.zero_le _⟩ ?_
    refine j_aload cx (pc := 202) dL_isSo_202 7 rfl ?_
    refine j_bipush cx (pc := 204) (v := (nI 6)) dL_isSo_204 (by decide) ?_
    refine j_iload cx (pc := 206) dL_isSo_206 2 rfl ?_
    refine j_imulN cx (pc := 208) dL_isSo_208 ?_
    refine j_iconst cx (pc := 209) (v := (nI 4)) dL_isSo_209 (by decide) ?_
    refine j_iaddN cx (pc := 210) dL_isSo_210 ?_
    refine j_iald cx (pc := 211) 87 2 0 (FBx_87 Y ad _ _) rfl rfl (by omega) (by decide) dL_isSo_211 ?_
    refine j_icmp_ne cx (pc := 212) (tgt := 377) dL_isSo_212 (by decide) (fun c212_4 => by exfalso; exact c212_4 (l5)) (fun c212_4 => ?_)
    refine j_aload_n cx (pc := 215) dL_isSo_215 3 rfl ?_
    refine j_iload cx (pc := 216) dL_isSo_216 2 rfl ?_
    refine j_bipush cx (pc := 218) (v := (nI 6)) dL_isSo_218 (by decide) ?_
    refine j_calli cx (pc := 220) 2 (c_X7_link l D Y ad F (nI lk) (nI 6) hst) gL_isSo_X7_link rfl (by decide +kernel) rfl ⟨Nat.le_of_ble_eq_true rfl, Nat.le_of_ble_eq_true rfl⟩ (List.range 87) (FBx_s Y ad F _) nd_range87 (Bs' := FB Y ad F ++ [lwB Y la G]) (putL_same (FBx_s Y ad F _)) rfl 85 0 rfl rfl rfl rfl (Nat.le_of_ble_eq_true rfl) dL_isSo_220 ⟨Nat.zero_le _, Nat.zero_le _⟩ ?_
    refine j_aload cx (pc := 223) dL_isSo_223 7 rfl ?_
    refine j_bipush cx (pc := 225) (v := (nI 6)) dL_isSo_225 (by decide) ?_
    refine j_iload cx (pc := 227) dL_isSo_227 2 rfl ?_
    refine j_imulN cx (pc := 229) dL_isSo_229 ?_
    refine j_iconst cx (pc := 230) (v := (nI 1)) dL_isSo_230 (by decide) ?_
    refine j_iaddN cx (pc := 231) dL_isSo_231 ?_
    refine j_iald cx (pc := 232) 87 2 0 (FBx_87 Y ad _ _) rfl rfl (by omega) (by decide) dL_isSo_232 ?_
    refine j_icmp_ne cx (pc := 233) (tgt := 377) dL_isSo_233 (by decide) (fun c233_5 => by exfalso; exact c233_5 (l6)) (fun c233_5 => ?_)
    refine j_aload_n cx (pc := 236) dL_isSo_236 3 rfl ?_
    refine j_iload cx (pc := 237) dL_isSo_237 2 rfl ?_
    refine j_bipush cx (pc := 239) (v := (nI 7)) dL_isSo_239 (by decide) ?_
    refine j_calli cx (pc := 241) 2 (c_X7_link l D Y ad F (nI lk) (nI 7) hst) gL_isSo_X7_link rfl (by decide +kernel) rfl ⟨Nat.le_of_ble_eq_true rfl, Nat.le_of_ble_eq_true rfl⟩ (List.range 87) (FBx_s Y ad F _) nd_range87 (Bs' := FB Y ad F ++ [lwB Y la G]) (putL_same (FBx_s Y ad F _)) rfl 85 0 rfl rfl rfl rfl (Nat.le_of_ble_eq_true rfl) dL_isSo_241 ⟨Nat.zero_le _, Nat.zero_le _⟩ ?_
    refine j_aload cx (pc := 244) dL_isSo_244 7 rfl ?_
    refine j_bipush cx (pc := 246) (v := (nI 6)) dL_isSo_246 (by decide) ?_
    refine j_iload cx (pc := 248) dL_isSo_248 2 rfl ?_
    refine j_imulN cx (pc := 250) dL_isSo_250 ?_
    refine j_iconst cx (pc := 251) (v := (nI 2)) dL_isSo_251 (by decide) ?_
    refine j_iaddN cx (pc := 252) dL_isSo_252 ?_
    refine j_iald cx (pc := 253) 87 2 0 (FBx_87 Y ad _ _) rfl rfl (by omega) (by decide) dL_isSo_253 ?_
    refine j_icmp_ne cx (pc := 254) (tgt := 377) dL_isSo_254 (by decide) (fun c254_6 => by exfalso; exact c254_6 (l7)) (fun c254_6 => ?_)
    refine j_aload_n cx (pc := 257) dL_isSo_257 3 rfl ?_
    refine j_iload cx (pc := 258) dL_isSo_258 2 rfl ?_
    refine j_bipush cx (pc := 260) (v := (nI 8)) dL_isSo_260 (by decide) ?_
    refine j_calli cx (pc := 262) 2 (c_X7_link l D Y ad F (nI lk) (nI 8) hst) gL_isSo_X7_link rfl (by decide +kernel) rfl ⟨Nat.le_of_ble_eq_true rfl, Nat.le_of_ble_eq_true rfl⟩ (List.range 87) (FBx_s Y ad F _) nd_range87 (Bs' := FB Y ad F ++ [lwB Y la G]) (putL_same (FBx_s Y ad F _)) rfl 85 0 rfl rfl rfl rfl (Nat.le_of_ble_eq_true rfl) dL_isSo_262 ⟨Nat.zero_le _, Nat.zero_le _⟩ ?_
    refine j_aload cx (pc := 265) dL_isSo_265 7 rfl ?_
    refine j_bipush cx (pc := 267) (v := (nI 6)) dL_isSo_267 (by decide) ?_
    refine j_iload cx (pc := 269) dL_isSo_269 2 rfl ?_
    refine j_imulN cx (pc := 271) dL_isSo_271 ?_
    refine j_iconst cx (pc := 272) (v := (nI 5)) dL_isSo_272 (by decide) ?_
    refine j_iaddN cx (pc := 273) dL_isSo_273 ?_
    refine j_iald cx (pc := 274) 87 2 0 (FBx_87 Y ad _ _) rfl rfl (by omega) (by decide) dL_isSo_274 ?_
    refine j_icmp_ne cx (pc := 275) (tgt := 377) dL_isSo_275 (by decide) (fun c275_7 => by exfalso; exact c275_7 (l8)) (fun c275_7 => ?_)
    refine j_aload_n cx (pc := 278) dL_isSo_278 3 rfl ?_
    refine j_iload cx (pc := 279) dL_isSo_279 2 rfl ?_
    refine j_bipush cx (pc := 281) (v := (nI 9)) dL_isSo_281 (by decide) ?_
    refine j_calli cx (pc := 283) 2 (c_X7_link l D Y ad F (nI lk) (nI 9) hst) gL_isSo_X7_link rfl (by decide +kernel) rfl ⟨Nat.le_of_ble_eq_true rfl, Nat.le_of_ble_eq_true rfl⟩ (List.range 87) (FBx_s Y ad F _) nd_range87 (Bs' := FB Y ad F ++ [lwB Y la G]) (putL_same (FBx_s Y ad F _)) rfl 85 0 rfl rfl rfl rfl (Nat.le_of_ble_eq_true rfl) dL_isSo_283 ⟨Nat.zero_le _, Nat.zero_le _⟩ ?_
    refine j_aload cx (pc := 286) dL_isSo_286 8 rfl ?_
    refine j_iconst cx (pc := 288) (v := (nI 3)) dL_isSo_288 (by decide) ?_
    refine j_iload cx (pc := 289) dL_isSo_289 2 rfl ?_
    refine j_imulN cx (pc := 291) dL_isSo_291 ?_
    refine j_iald cx (pc := 292) 87 3 0 (FBx_87 Y ad _ _) rfl rfl (by omega) (by decide) dL_isSo_292 ?_
    refine j_icmp_ne cx (pc := 293) (tgt := 377) dL_isSo_293 (by decide) (fun c293_8 => by exfalso; exact c293_8 (l9)) (fun c293_8 => ?_)
    refine j_aload_n cx (pc := 296) dL_isSo_296 3 rfl ?_
    refine j_iload cx (pc := 297) dL_isSo_297 2 rfl ?_
    refine j_bipush cx (pc := 299) (v := (nI 10)) dL_isSo_299 (by decide) ?_
    refine j_calli cx (pc := 301) 2 (c_X7_link l D Y ad F (nI lk) (nI 10) hst) gL_isSo_X7_link rfl (by decide +kernel) rfl ⟨Nat.le_of_ble_eq_true rfl, Nat.le_of_ble_eq_true rfl⟩ (List.range 87) (FBx_s Y ad F _) nd_range87 (Bs' := FB Y ad F ++ [lwB Y la G]) (putL_same (FBx_s Y ad F _)) rfl 85 0 rfl rfl rfl rfl (Nat.le_of_ble_eq_true rfl) dL_isSo_301 ⟨Nat.zero_le _, Nat.zero_le _⟩ ?_
    refine j_aload cx (pc := 304) dL_isSo_304 8 rfl ?_
    refine j_iconst cx (pc := 306) (v := (nI 3)) dL_isSo_306 (by decide) ?_
    refine j_iload cx (pc := 307) dL_isSo_307 2 rfl ?_
    refine j_imulN cx (pc := 309) dL_isSo_309 ?_
    refine j_iconst cx (pc := 310) (v := (nI 1)) dL_isSo_310 (by decide) ?_
    refine j_iaddN cx (pc := 311) dL_isSo_311 ?_
    refine j_iald cx (pc := 312) 87 3 0 (FBx_87 Y ad _ _) rfl rfl (by omega) (by decide) dL_isSo_312 ?_
    refine j_icmp_ne cx (pc := 313) (tgt := 377) dL_isSo_313 (by decide) (fun c313_9 => by exfalso; exact c313_9 (l10)) (fun c313_9 => ?_)
    refine j_aload_n cx (pc := 316) dL_isSo_316 3 rfl ?_
    refine j_iload cx (pc := 317) dL_isSo_317 2 rfl ?_
    refine j_bipush cx (pc := 319) (v := (nI 11)) dL_isSo_319 (by decide) ?_
    refine j_calli cx (pc := 321) 2 (c_X7_link l D Y ad F (nI lk) (nI 11) hst) gL_isSo_X7_link rfl (by decide +kernel) rfl ⟨Nat.le_of_ble_eq_true rfl, Nat.le_of_ble_eq_true rfl⟩ (List.range 87) (FBx_s Y ad F _) nd_range87 (Bs' := FB Y ad F ++ [lwB Y la G]) (putL_same (FBx_s Y ad F _)) rfl 85 0 rfl rfl rfl rfl (Nat.le_of_ble_eq_true rfl) dL_isSo_321 ⟨Nat.zero_le _, Nat.zero_le _⟩ ?_
    refine j_aload cx (pc := 324) dL_isSo_324 8 rfl ?_
    refine j_iconst cx (pc := 326) (v := (nI 3)) dL_isSo_326 (by decide) ?_
    refine j_iload cx (pc := 327) dL_isSo_327 2 rfl ?_
    refine j_imulN cx (pc := 329) dL_isSo_329 ?_
    refine j_iconst cx (pc := 330) (v := (nI 2)) dL_isSo_330 (by decide) ?_
    refine j_iaddN cx (pc := 331) dL_isSo_331 ?_
    refine j_iald cx (pc := 332) 87 3 0 (FBx_87 Y ad _ _) rfl rfl (by omega) (by decide) dL_isSo_332 ?_
    refine j_icmp_ne cx (pc := 333) (tgt := 377) dL_isSo_333 (by decide) (fun c333_10 => by exfalso; exact c333_10 (l11)) (fun c333_10 => ?_)
    refine j_aload_n cx (pc := 336) dL_isSo_336 3 rfl ?_
    refine j_iload cx (pc := 337) dL_isSo_337 2 rfl ?_
    refine j_bipush cx (pc := 339) (v := (nI 12)) dL_isSo_339 (by decide) ?_
    refine j_calli cx (pc := 341) 2 (c_X7_link l D Y ad F (nI lk) (nI 12) hst) gL_isSo_X7_link rfl (by decide +kernel) rfl ⟨Nat.le_of_ble_eq_true rfl, Nat.le_of_ble_eq_true rfl⟩ (List.range 87) (FBx_s Y ad F _) nd_range87 (Bs' := FB Y ad F ++ [lwB Y la G]) (putL_same (FBx_s Y ad F _)) rfl 85 0 rfl rfl rfl rfl (Nat.le_of_ble_eq_true rfl) dL_isSo_341 ⟨Nat.zero_le _, Nat.zero_le _⟩ ?_
    refine j_aload_n cx (pc := 344) dL_isSo_344 6 rfl ?_
    refine j_iconst cx (pc := 345) (v := (nI 3)) dL_isSo_345 (by decide) ?_
    refine j_iload cx (pc := 346) dL_isSo_346 2 rfl ?_
    refine j_imulN cx (pc := 348) dL_isSo_348 ?_
    refine j_iconst cx (pc := 349) (v := (nI 2)) dL_isSo_349 (by decide) ?_
    refine j_iaddN cx (pc := 350) dL_isSo_350 ?_
    refine j_iald cx (pc := 351) 87 1 0 (FBx_87 Y ad _ _) rfl rfl (by omega) (by decide) dL_isSo_351 ?_
    refine j_aload_n cx (pc := 352) dL_isSo_352 6 rfl ?_
    refine j_iconst cx (pc := 353) (v := (nI 3)) dL_isSo_353 (by decide) ?_
    refine j_iload cx (pc := 354) dL_isSo_354 2 rfl ?_
    refine j_imulN cx (pc := 356) dL_isSo_356 ?_
    refine j_iald cx (pc := 357) 87 1 0 (FBx_87 Y ad _ _) rfl rfl (by omega) (by decide) dL_isSo_357 ?_
    refine j_aload_n cx (pc := 358) dL_isSo_358 5 rfl ?_
    refine j_iconst cx (pc := 359) (v := (nI 0)) dL_isSo_359 (by decide) ?_
    refine j_iald cx (pc := 360) 87 0 0 (FBx_87 Y ad _ _) rfl rfl (by decide) (by decide) dL_isSo_360 ?_
    refine j_iadd cx (pc := 361) dL_isSo_361 ?_
    refine j_icmp_gt cx (pc := 362) (tgt := 369) dL_isSo_362 (by decide) (fun c362_11 => ?_) (fun c362_11 => ?_)
    · skip
      refine j_iconst cx (pc := 369) (v := (nI 0)) dL_isSo_369 (by decide) ?_
      refine j_icmp_ne cx (pc := 370) (tgt := 377) dL_isSo_370 (by decide) (fun c370_12 => by exfalso; exact c370_12 (by rw [l12]; first | rw [if_pos (by assumption)] | rw [if_neg (Int32.not_lt.mpr (by assumption))] | rw [if_neg (by assumption)])) (fun c370_12 => ?_)
      refine j_iconst cx (pc := 373) (v := (nI 1)) dL_isSo_373 (by decide) ?_
      refine j_goto cx (pc := 374) (tgt := 378) dL_isSo_374 (by decide) ?_
      refine j_lvm (lv' := [(11, .int (lsL (G 6) (tN (G 0 10)) 0 (-5))), (0, .ref (ad 8 2)), (1, .int x), (2, .ref (la 0)), (3, .ref (la 1)), (4, .ref (la 2)), (5, .ref (la 3)), (6, .ref (la 4)), (7, .ref (la 6)), (8, .ref (la 8))]) (by intro z hz; simp only [List.mem_cons, List.not_mem_nil, or_false] at hz ⊢; rcases hz with rfl | rfl | rfl | rfl | rfl | rfl | rfl | rfl | rfl | rfl <;> simp) ?_
      exact K378
    · skip
      refine j_iconst cx (pc := 365) (v := (nI 1)) dL_isSo_365 (by decide) ?_
      refine j_goto cx (pc := 366) (tgt := 370) dL_isSo_366 (by decide) ?_
      refine j_icmp_ne cx (pc := 370) (tgt := 377) dL_isSo_370 (by decide) (fun c370_13 => by exfalso; exact c370_13 (by rw [l12]; first | rw [if_pos (by assumption)] | rw [if_neg (Int32.not_lt.mpr (by assumption))] | rw [if_neg (by assumption)])) (fun c370_13 => ?_)
      refine j_iconst cx (pc := 373) (v := (nI 1)) dL_isSo_373 (by decide) ?_
      refine j_goto cx (pc := 374) (tgt := 378) dL_isSo_374 (by decide) ?_
      refine j_lvm (lv' := [(11, .int (lsL (G 6) (tN (G 0 10)) 0 (-5))), (0, .ref (ad 8 2)), (1, .int x), (2, .ref (la 0)), (3, .ref (la 1)), (4, .ref (la 2)), (5, .ref (la 3)), (6, .ref (la 4)), (7, .ref (la 6)), (8, .ref (la 8))]) (by intro z hz; simp only [List.mem_cons, List.not_mem_nil, or_false] at hz ⊢; rcases hz with rfl | rfl | rfl | rfl | rfl | rfl | rfl | rfl | rfl | rfl <;> simp) ?_
      exact K378
  have K63 : J p l e { frames := 2, cells := 0, slots := 0, locals := 45 } s m args below meth c 15 D A 0 0 Q (FB Y ad F ++ [lwB Y la G]) 63 [(10, .int (nI 1)), (11, .int (lsL (G 6) (tN (G 0 10)) 0 (-5))), (9, .int (nI lk)), (0, .ref (ad 8 2)), (1, .int x), (2, .ref (la 0)), (3, .ref (la 1)), (4, .ref (la 2)), (5, .ref (la 3)), (6, .ref (la 4)), (7, .ref (la 6)), (8, .ref (la 8))] [] := by
    refine j_iconst cx (pc := 63) (v := (nI 0)) dL_isSo_63 (by decide) ?_
    refine j_istore cx (pc := 64) (lv' := [(12, .int (nI 0)), (10, .int (nI 1)), (11, .int (lsL (G 6) (tN (G 0 10)) 0 (-5))), (9, .int (nI lk)), (0, .ref (ad 8 2)), (1, .int x), (2, .ref (la 0)), (3, .ref (la 1)), (4, .ref (la 2)), (5, .ref (la 3)), (6, .ref (la 4)), (7, .ref (la 6)), (8, .ref (la 8))]) dL_isSo_64 (by decide) rfl ?_
    refine j_iload cx (pc := 66) dL_isSo_66 0 rfl ?_
    refine j_iconst cx (pc := 68) (v := (nI 3)) dL_isSo_68 (by decide) ?_
    refine j_icmpN_ge cx (pc := 69) (by decide) (by decide) (tgt := 152) dL_isSo_69 (by decide) (fun c69_1 => by exfalso; revert c69_1; decide) (fun c69_1 => ?_)
    refine j_iload cx (pc := 72) dL_isSo_72 1 rfl ?_
    refine j_ifN_eq cx (pc := 74) (by decide) (tgt := 143) dL_isSo_74 (by decide) (fun c74_2 => by exfalso; revert c74_2; decide) (fun c74_2 => ?_)
    refine j_aload_n cx (pc := 77) dL_isSo_77 4 rfl ?_
    refine j_iload cx (pc := 78) dL_isSo_78 3 rfl ?_
    refine j_iload cx (pc := 80) dL_isSo_80 0 rfl ?_
    refine j_calli cx (pc := 82) 2 (c_X7_link l D Y ad F (nI lk) (nI 0) hst) gL_isSo_X7_link rfl (by decide +kernel) rfl ⟨Nat.le_of_ble_eq_true rfl, Nat.le_of_ble_eq_true rfl⟩ (List.range 87) (FBx_s Y ad F _) nd_range87 (Bs' := FB Y ad F ++ [lwB Y la G]) (putL_same (FBx_s Y ad F _)) rfl 85 0 rfl rfl rfl rfl (Nat.le_of_ble_eq_true rfl) dL_isSo_82 ⟨Nat.zero_le _, Nat.zero_le _⟩ ?_
    refine j_aload_n cx (pc := 85) dL_isSo_85 7 rfl ?_
    refine j_iconst cx (pc := 86) (v := (nI 3)) dL_isSo_86 (by decide) ?_
    refine j_iload cx (pc := 87) dL_isSo_87 3 rfl ?_
    refine j_imulN cx (pc := 89) dL_isSo_89 ?_
    refine j_iload cx (pc := 90) dL_isSo_90 0 rfl ?_
    refine j_iaddN cx (pc := 92) dL_isSo_92 ?_
    refine j_iald cx (pc := 93) 87 1 0 (FBx_87 Y ad _ _) rfl rfl (by omega) (by decide) dL_isSo_93 ?_
    refine j_icmp_ne cx (pc := 94) (tgt := 143) dL_isSo_94 (by decide) (fun c94_3 => by exfalso; exact c94_3 (l0 0 (by decide))) (fun c94_3 => ?_)
    refine j_aload_n cx (pc := 97) dL_isSo_97 4 rfl ?_
    refine j_bipush cx (pc := 98) (v := (nI 10)) dL_isSo_98 (by decide) ?_
    refine j_iload cx (pc := 100) dL_isSo_100 0 rfl ?_
    refine j_iaddN cx (pc := 102) dL_isSo_102 ?_
    refine j_top (show nI (10 + 0) = nI 10 from rfl) ?_
    refine j_calli cx (pc := 103) 1 (c_X7_total l D Y ad F (nI 10) hst) gL_isSo_X7_total rfl (by decide +kernel) rfl ⟨Nat.le_of_ble_eq_true rfl, Nat.le_of_ble_eq_true rfl⟩ (List.range 87) (FBx_s Y ad F _) nd_range87 (Bs' := FB Y ad F ++ [lwB Y la G]) (putL_same (FBx_s Y ad F _)) rfl 85 0 rfl rfl rfl rfl (Nat.le_of_ble_eq_true rfl) dL_isSo_103 ⟨Nat.zero_le _, Nat.zero_le _⟩ ?_
    refine j_aload_n cx (pc := 106) dL_isSo_106 6 rfl ?_
    refine j_iload cx (pc := 107) dL_isSo_107 0 rfl ?_
    refine j_iald cx (pc := 109) 87 0 0 (FBx_87 Y ad _ _) rfl rfl (by decide) (by decide) dL_isSo_109 ?_
    refine j_icmp_ne cx (pc := 110) (tgt := 143) dL_isSo_110 (by decide) (fun c110_4 => by exfalso; exact c110_4 (ht 0 (by decide))) (fun c110_4 => ?_)
    refine j_aload_n cx (pc := 113) dL_isSo_113 4 rfl ?_
    refine j_iconst cx (pc := 114) (v := (nI 0)) dL_isSo_114 (by decide) ?_
    refine j_iload cx (pc := 115) dL_isSo_115 0 rfl ?_
    refine j_calli cx (pc := 117) 2 (c_X7_noted l D Y ad F (nI 0) (nI 0) hnt) gL_isSo_X7_noted rfl (by decide +kernel) rfl ⟨Nat.le_of_ble_eq_true rfl, Nat.le_of_ble_eq_true rfl⟩ (List.range 87) (FBx_s Y ad F _) nd_range87 (Bs' := FB Y ad F ++ [lwB Y la G]) (putL_same (FBx_s Y ad F _)) rfl 85 0 rfl rfl rfl rfl (Nat.le_of_ble_eq_true rfl) dL_isSo_117 ⟨Nat.zero_le _, Nat.zero_le _⟩ ?_
    refine j_aload_n cx (pc := 120) dL_isSo_120 6 rfl ?_
    refine j_iconst cx (pc := 121) (v := (nI 5)) dL_isSo_121 (by decide) ?_
    refine j_iald cx (pc := 122) 87 0 0 (FBx_87 Y ad _ _) rfl rfl (by decide) (by decide) dL_isSo_122 ?_
    refine j_if_ne cx (pc := 123) (tgt := 131) dL_isSo_123 (by decide) (fun c123_5 => ?_) (fun c123_5 => ?_)
    · skip
      refine j_aload cx (pc := 131) dL_isSo_131 12 rfl ?_
      refine j_iload cx (pc := 133) dL_isSo_133 0 rfl ?_
      refine j_iald cx (pc := 135) 87 8 0 (FBx_87 Y ad _ _) rfl rfl (by decide) (by decide) dL_isSo_135 ?_
      refine j_icmp_ne cx (pc := 136) (tgt := 143) dL_isSo_136 (by decide) (fun c136_6 => by exfalso; exact c136_6 (by rw [hn 0 (by decide)]; first | rw [if_pos (by assumption)] | rw [if_neg (by assumption)])) (fun c136_6 => ?_)
      refine j_iconst cx (pc := 139) (v := (nI 1)) dL_isSo_139 (by decide) ?_
      refine j_goto cx (pc := 140) (tgt := 144) dL_isSo_140 (by decide) ?_
      refine j_istore cx (pc := 144) (lv' := [(10, .int (nI 1)), (12, .int (nI 0)), (11, .int (lsL (G 6) (tN (G 0 10)) 0 (-5))), (9, .int (nI lk)), (0, .ref (ad 8 2)), (1, .int x), (2, .ref (la 0)), (3, .ref (la 1)), (4, .ref (la 2)), (5, .ref (la 3)), (6, .ref (la 4)), (7, .ref (la 6)), (8, .ref (la 8))]) dL_isSo_144 (by decide) rfl ?_
      refine j_iinc cx (pc := 146) (v := (nI 1)) (lv' := [(12, .int (nI 1)), (10, .int (nI 1)), (11, .int (lsL (G 6) (tN (G 0 10)) 0 (-5))), (9, .int (nI lk)), (0, .ref (ad 8 2)), (1, .int x), (2, .ref (la 0)), (3, .ref (la 1)), (4, .ref (la 2)), (5, .ref (la 3)), (6, .ref (la 4)), (7, .ref (la 6)), (8, .ref (la 8))]) dL_isSo_146 1 rfl rfl (by decide) rfl ?_
      refine j_goto cx (pc := 149) (tgt := 66) dL_isSo_149 (by decide) ?_
      refine j_iload cx (pc := 66) dL_isSo_66 0 rfl ?_
      refine j_iconst cx (pc := 68) (v := (nI 3)) dL_isSo_68 (by decide) ?_
      refine j_icmpN_ge cx (pc := 69) (by decide) (by decide) (tgt := 152) dL_isSo_69 (by decide) (fun c69_7 => by exfalso; revert c69_7; decide) (fun c69_7 => ?_)
      refine j_iload cx (pc := 72) dL_isSo_72 1 rfl ?_
      refine j_ifN_eq cx (pc := 74) (by decide) (tgt := 143) dL_isSo_74 (by decide) (fun c74_8 => by exfalso; revert c74_8; decide) (fun c74_8 => ?_)
      refine j_aload_n cx (pc := 77) dL_isSo_77 4 rfl ?_
      refine j_iload cx (pc := 78) dL_isSo_78 3 rfl ?_
      refine j_iload cx (pc := 80) dL_isSo_80 0 rfl ?_
      refine j_calli cx (pc := 82) 2 (c_X7_link l D Y ad F (nI lk) (nI 1) hst) gL_isSo_X7_link rfl (by decide +kernel) rfl ⟨Nat.le_of_ble_eq_true rfl, Nat.le_of_ble_eq_true rfl⟩ (List.range 87) (FBx_s Y ad F _) nd_range87 (Bs' := FB Y ad F ++ [lwB Y la G]) (putL_same (FBx_s Y ad F _)) rfl 85 0 rfl rfl rfl rfl (Nat.le_of_ble_eq_true rfl) dL_isSo_82 ⟨Nat.zero_le _, Nat.zero_le _⟩ ?_
      refine j_aload_n cx (pc := 85) dL_isSo_85 7 rfl ?_
      refine j_iconst cx (pc := 86) (v := (nI 3)) dL_isSo_86 (by decide) ?_
      refine j_iload cx (pc := 87) dL_isSo_87 3 rfl ?_
      refine j_imulN cx (pc := 89) dL_isSo_89 ?_
      refine j_iload cx (pc := 90) dL_isSo_90 0 rfl ?_
      refine j_iaddN cx (pc := 92) dL_isSo_92 ?_
      refine j_iald cx (pc := 93) 87 1 0 (FBx_87 Y ad _ _) rfl rfl (by omega) (by decide) dL_isSo_93 ?_
      refine j_icmp_ne cx (pc := 94) (tgt := 143) dL_isSo_94 (by decide) (fun c94_9 => by exfalso; exact c94_9 (l0 1 (by decide))) (fun c94_9 => ?_)
      refine j_aload_n cx (pc := 97) dL_isSo_97 4 rfl ?_
      refine j_bipush cx (pc := 98) (v := (nI 10)) dL_isSo_98 (by decide) ?_
      refine j_iload cx (pc := 100) dL_isSo_100 0 rfl ?_
      refine j_iaddN cx (pc := 102) dL_isSo_102 ?_
      refine j_top (show nI (10 + 1) = nI 11 from rfl) ?_
      refine j_calli cx (pc := 103) 1 (c_X7_total l D Y ad F (nI 11) hst) gL_isSo_X7_total rfl (by decide +kernel) rfl ⟨Nat.le_of_ble_eq_true rfl, Nat.le_of_ble_eq_true rfl⟩ (List.range 87) (FBx_s Y ad F _) nd_range87 (Bs' := FB Y ad F ++ [lwB Y la G]) (putL_same (FBx_s Y ad F _)) rfl 85 0 rfl rfl rfl rfl (Nat.le_of_ble_eq_true rfl) dL_isSo_103 ⟨Nat.zero_le _, Nat.zero_le _⟩ ?_
      refine j_aload_n cx (pc := 106) dL_isSo_106 6 rfl ?_
      refine j_iload cx (pc := 107) dL_isSo_107 0 rfl ?_
      refine j_iald cx (pc := 109) 87 0 0 (FBx_87 Y ad _ _) rfl rfl (by decide) (by decide) dL_isSo_109 ?_
      refine j_icmp_ne cx (pc := 110) (tgt := 143) dL_isSo_110 (by decide) (fun c110_10 => by exfalso; exact c110_10 (ht 1 (by decide))) (fun c110_10 => ?_)
      refine j_aload_n cx (pc := 113) dL_isSo_113 4 rfl ?_
      refine j_iconst cx (pc := 114) (v := (nI 0)) dL_isSo_114 (by decide) ?_
      refine j_iload cx (pc := 115) dL_isSo_115 0 rfl ?_
      refine j_calli cx (pc := 117) 2 (c_X7_noted l D Y ad F (nI 0) (nI 1) hnt) gL_isSo_X7_noted rfl (by decide +kernel) rfl ⟨Nat.le_of_ble_eq_true rfl, Nat.le_of_ble_eq_true rfl⟩ (List.range 87) (FBx_s Y ad F _) nd_range87 (Bs' := FB Y ad F ++ [lwB Y la G]) (putL_same (FBx_s Y ad F _)) rfl 85 0 rfl rfl rfl rfl (Nat.le_of_ble_eq_true rfl) dL_isSo_117 ⟨Nat.zero_le _, Nat.zero_le _⟩ ?_
      refine j_aload_n cx (pc := 120) dL_isSo_120 6 rfl ?_
      refine j_iconst cx (pc := 121) (v := (nI 5)) dL_isSo_121 (by decide) ?_
      refine j_iald cx (pc := 122) 87 0 0 (FBx_87 Y ad _ _) rfl rfl (by decide) (by decide) dL_isSo_122 ?_
      refine j_if_ne cx (pc := 123) (tgt := 131) dL_isSo_123 (by decide) (fun c123_11 => ?_) (fun c123_11 => by exfalso; first | omega | exact absurd c123_5 c123_11 | exact absurd c123_11 c123_5)
      refine j_aload cx (pc := 131) dL_isSo_131 12 rfl ?_
      refine j_iload cx (pc := 133) dL_isSo_133 0 rfl ?_
      refine j_iald cx (pc := 135) 87 8 0 (FBx_87 Y ad _ _) rfl rfl (by decide) (by decide) dL_isSo_135 ?_
      refine j_icmp_ne cx (pc := 136) (tgt := 143) dL_isSo_136 (by decide) (fun c136_12 => by exfalso; exact c136_12 (by rw [hn 1 (by decide)]; first | rw [if_pos (by assumption)] | rw [if_neg (by assumption)])) (fun c136_12 => ?_)
      refine j_iconst cx (pc := 139) (v := (nI 1)) dL_isSo_139 (by decide) ?_
      refine j_goto cx (pc := 140) (tgt := 144) dL_isSo_140 (by decide) ?_
      refine j_istore cx (pc := 144) (lv' := [(10, .int (nI 1)), (12, .int (nI 1)), (11, .int (lsL (G 6) (tN (G 0 10)) 0 (-5))), (9, .int (nI lk)), (0, .ref (ad 8 2)), (1, .int x), (2, .ref (la 0)), (3, .ref (la 1)), (4, .ref (la 2)), (5, .ref (la 3)), (6, .ref (la 4)), (7, .ref (la 6)), (8, .ref (la 8))]) dL_isSo_144 (by decide) rfl ?_
      refine j_iinc cx (pc := 146) (v := (nI 2)) (lv' := [(12, .int (nI 2)), (10, .int (nI 1)), (11, .int (lsL (G 6) (tN (G 0 10)) 0 (-5))), (9, .int (nI lk)), (0, .ref (ad 8 2)), (1, .int x), (2, .ref (la 0)), (3, .ref (la 1)), (4, .ref (la 2)), (5, .ref (la 3)), (6, .ref (la 4)), (7, .ref (la 6)), (8, .ref (la 8))]) dL_isSo_146 1 rfl rfl (by decide) rfl ?_
      refine j_goto cx (pc := 149) (tgt := 66) dL_isSo_149 (by decide) ?_
      refine j_iload cx (pc := 66) dL_isSo_66 0 rfl ?_
      refine j_iconst cx (pc := 68) (v := (nI 3)) dL_isSo_68 (by decide) ?_
      refine j_icmpN_ge cx (pc := 69) (by decide) (by decide) (tgt := 152) dL_isSo_69 (by decide) (fun c69_13 => by exfalso; revert c69_13; decide) (fun c69_13 => ?_)
      refine j_iload cx (pc := 72) dL_isSo_72 1 rfl ?_
      refine j_ifN_eq cx (pc := 74) (by decide) (tgt := 143) dL_isSo_74 (by decide) (fun c74_14 => by exfalso; revert c74_14; decide) (fun c74_14 => ?_)
      refine j_aload_n cx (pc := 77) dL_isSo_77 4 rfl ?_
      refine j_iload cx (pc := 78) dL_isSo_78 3 rfl ?_
      refine j_iload cx (pc := 80) dL_isSo_80 0 rfl ?_
      refine j_calli cx (pc := 82) 2 (c_X7_link l D Y ad F (nI lk) (nI 2) hst) gL_isSo_X7_link rfl (by decide +kernel) rfl ⟨Nat.le_of_ble_eq_true rfl, Nat.le_of_ble_eq_true rfl⟩ (List.range 87) (FBx_s Y ad F _) nd_range87 (Bs' := FB Y ad F ++ [lwB Y la G]) (putL_same (FBx_s Y ad F _)) rfl 85 0 rfl rfl rfl rfl (Nat.le_of_ble_eq_true rfl) dL_isSo_82 ⟨Nat.zero_le _, Nat.zero_le _⟩ ?_
      refine j_aload_n cx (pc := 85) dL_isSo_85 7 rfl ?_
      refine j_iconst cx (pc := 86) (v := (nI 3)) dL_isSo_86 (by decide) ?_
      refine j_iload cx (pc := 87) dL_isSo_87 3 rfl ?_
      refine j_imulN cx (pc := 89) dL_isSo_89 ?_
      refine j_iload cx (pc := 90) dL_isSo_90 0 rfl ?_
      refine j_iaddN cx (pc := 92) dL_isSo_92 ?_
      refine j_iald cx (pc := 93) 87 1 0 (FBx_87 Y ad _ _) rfl rfl (by omega) (by decide) dL_isSo_93 ?_
      refine j_icmp_ne cx (pc := 94) (tgt := 143) dL_isSo_94 (by decide) (fun c94_15 => by exfalso; exact c94_15 (l0 2 (by decide))) (fun c94_15 => ?_)
      refine j_aload_n cx (pc := 97) dL_isSo_97 4 rfl ?_
      refine j_bipush cx (pc := 98) (v := (nI 10)) dL_isSo_98 (by decide) ?_
      refine j_iload cx (pc := 100) dL_isSo_100 0 rfl ?_
      refine j_iaddN cx (pc := 102) dL_isSo_102 ?_
      refine j_top (show nI (10 + 2) = nI 12 from rfl) ?_
      refine j_calli cx (pc := 103) 1 (c_X7_total l D Y ad F (nI 12) hst) gL_isSo_X7_total rfl (by decide +kernel) rfl ⟨Nat.le_of_ble_eq_true rfl, Nat.le_of_ble_eq_true rfl⟩ (List.range 87) (FBx_s Y ad F _) nd_range87 (Bs' := FB Y ad F ++ [lwB Y la G]) (putL_same (FBx_s Y ad F _)) rfl 85 0 rfl rfl rfl rfl (Nat.le_of_ble_eq_true rfl) dL_isSo_103 ⟨Nat.zero_le _, Nat.zero_le _⟩ ?_
      refine j_aload_n cx (pc := 106) dL_isSo_106 6 rfl ?_
      refine j_iload cx (pc := 107) dL_isSo_107 0 rfl ?_
      refine j_iald cx (pc := 109) 87 0 0 (FBx_87 Y ad _ _) rfl rfl (by decide) (by decide) dL_isSo_109 ?_
      refine j_icmp_ne cx (pc := 110) (tgt := 143) dL_isSo_110 (by decide) (fun c110_16 => by exfalso; exact c110_16 (ht 2 (by decide))) (fun c110_16 => ?_)
      refine j_aload_n cx (pc := 113) dL_isSo_113 4 rfl ?_
      refine j_iconst cx (pc := 114) (v := (nI 0)) dL_isSo_114 (by decide) ?_
      refine j_iload cx (pc := 115) dL_isSo_115 0 rfl ?_
      refine j_calli cx (pc := 117) 2 (c_X7_noted l D Y ad F (nI 0) (nI 2) hnt) gL_isSo_X7_noted rfl (by decide +kernel) rfl ⟨Nat.le_of_ble_eq_true rfl, Nat.le_of_ble_eq_true rfl⟩ (List.range 87) (FBx_s Y ad F _) nd_range87 (Bs' := FB Y ad F ++ [lwB Y la G]) (putL_same (FBx_s Y ad F _)) rfl 85 0 rfl rfl rfl rfl (Nat.le_of_ble_eq_true rfl) dL_isSo_117 ⟨Nat.zero_le _, Nat.zero_le _⟩ ?_
      refine j_aload_n cx (pc := 120) dL_isSo_120 6 rfl ?_
      refine j_iconst cx (pc := 121) (v := (nI 5)) dL_isSo_121 (by decide) ?_
      refine j_iald cx (pc := 122) 87 0 0 (FBx_87 Y ad _ _) rfl rfl (by decide) (by decide) dL_isSo_122 ?_
      refine j_if_ne cx (pc := 123) (tgt := 131) dL_isSo_123 (by decide) (fun c123_17 => ?_) (fun c123_17 => by exfalso; first | omega | exact absurd c123_5 c123_17 | exact absurd c123_17 c123_5)
      refine j_aload cx (pc := 131) dL_isSo_131 12 rfl ?_
      refine j_iload cx (pc := 133) dL_isSo_133 0 rfl ?_
      refine j_iald cx (pc := 135) 87 8 0 (FBx_87 Y ad _ _) rfl rfl (by decide) (by decide) dL_isSo_135 ?_
      refine j_icmp_ne cx (pc := 136) (tgt := 143) dL_isSo_136 (by decide) (fun c136_18 => by exfalso; exact c136_18 (by rw [hn 2 (by decide)]; first | rw [if_pos (by assumption)] | rw [if_neg (by assumption)])) (fun c136_18 => ?_)
      refine j_iconst cx (pc := 139) (v := (nI 1)) dL_isSo_139 (by decide) ?_
      refine j_goto cx (pc := 140) (tgt := 144) dL_isSo_140 (by decide) ?_
      refine j_istore cx (pc := 144) (lv' := [(10, .int (nI 1)), (12, .int (nI 2)), (11, .int (lsL (G 6) (tN (G 0 10)) 0 (-5))), (9, .int (nI lk)), (0, .ref (ad 8 2)), (1, .int x), (2, .ref (la 0)), (3, .ref (la 1)), (4, .ref (la 2)), (5, .ref (la 3)), (6, .ref (la 4)), (7, .ref (la 6)), (8, .ref (la 8))]) dL_isSo_144 (by decide) rfl ?_
      refine j_iinc cx (pc := 146) (v := (nI 3)) (lv' := [(12, .int (nI 3)), (10, .int (nI 1)), (11, .int (lsL (G 6) (tN (G 0 10)) 0 (-5))), (9, .int (nI lk)), (0, .ref (ad 8 2)), (1, .int x), (2, .ref (la 0)), (3, .ref (la 1)), (4, .ref (la 2)), (5, .ref (la 3)), (6, .ref (la 4)), (7, .ref (la 6)), (8, .ref (la 8))]) dL_isSo_146 1 rfl rfl (by decide) rfl ?_
      refine j_goto cx (pc := 149) (tgt := 66) dL_isSo_149 (by decide) ?_
      refine j_iload cx (pc := 66) dL_isSo_66 0 rfl ?_
      refine j_iconst cx (pc := 68) (v := (nI 3)) dL_isSo_68 (by decide) ?_
      refine j_icmpN_ge cx (pc := 69) (by decide) (by decide) (tgt := 152) dL_isSo_69 (by decide) (fun c69_19 => ?_) (fun c69_19 => by exfalso; revert c69_19; decide)
      refine j_lvm (lv' := [(10, .int (nI 1)), (11, .int (lsL (G 6) (tN (G 0 10)) 0 (-5))), (9, .int (nI lk)), (0, .ref (ad 8 2)), (1, .int x), (2, .ref (la 0)), (3, .ref (la 1)), (4, .ref (la 2)), (5, .ref (la 3)), (6, .ref (la 4)), (7, .ref (la 6)), (8, .ref (la 8))]) (by intro z hz; simp only [List.mem_cons, List.not_mem_nil, or_false] at hz ⊢; rcases hz with rfl | rfl | rfl | rfl | rfl | rfl | rfl | rfl | rfl | rfl | rfl | rfl <;> simp) ?_
      exact K152
    · skip
      refine j_bipush cx (pc := 126) (v := (-5)) dL_isSo_126 (by decide) ?_
      refine j_goto cx (pc := 128) (tgt := 136) dL_isSo_128 (by decide) ?_
      refine j_icmp_ne cx (pc := 136) (tgt := 143) dL_isSo_136 (by decide) (fun c136_20 => by exfalso; exact c136_20 (by rw [hn 0 (by decide)]; first | rw [if_pos (by assumption)] | rw [if_neg (by assumption)])) (fun c136_20 => ?_)
      refine j_iconst cx (pc := 139) (v := (nI 1)) dL_isSo_139 (by decide) ?_
      refine j_goto cx (pc := 140) (tgt := 144) dL_isSo_140 (by decide) ?_
      refine j_istore cx (pc := 144) (lv' := [(10, .int (nI 1)), (12, .int (nI 0)), (11, .int (lsL (G 6) (tN (G 0 10)) 0 (-5))), (9, .int (nI lk)), (0, .ref (ad 8 2)), (1, .int x), (2, .ref (la 0)), (3, .ref (la 1)), (4, .ref (la 2)), (5, .ref (la 3)), (6, .ref (la 4)), (7, .ref (la 6)), (8, .ref (la 8))]) dL_isSo_144 (by decide) rfl ?_
      refine j_iinc cx (pc := 146) (v := (nI 1)) (lv' := [(12, .int (nI 1)), (10, .int (nI 1)), (11, .int (lsL (G 6) (tN (G 0 10)) 0 (-5))), (9, .int (nI lk)), (0, .ref (ad 8 2)), (1, .int x), (2, .ref (la 0)), (3, .ref (la 1)), (4, .ref (la 2)), (5, .ref (la 3)), (6, .ref (la 4)), (7, .ref (la 6)), (8, .ref (la 8))]) dL_isSo_146 1 rfl rfl (by decide) rfl ?_
      refine j_goto cx (pc := 149) (tgt := 66) dL_isSo_149 (by decide) ?_
      refine j_iload cx (pc := 66) dL_isSo_66 0 rfl ?_
      refine j_iconst cx (pc := 68) (v := (nI 3)) dL_isSo_68 (by decide) ?_
      refine j_icmpN_ge cx (pc := 69) (by decide) (by decide) (tgt := 152) dL_isSo_69 (by decide) (fun c69_21 => by exfalso; revert c69_21; decide) (fun c69_21 => ?_)
      refine j_iload cx (pc := 72) dL_isSo_72 1 rfl ?_
      refine j_ifN_eq cx (pc := 74) (by decide) (tgt := 143) dL_isSo_74 (by decide) (fun c74_22 => by exfalso; revert c74_22; decide) (fun c74_22 => ?_)
      refine j_aload_n cx (pc := 77) dL_isSo_77 4 rfl ?_
      refine j_iload cx (pc := 78) dL_isSo_78 3 rfl ?_
      refine j_iload cx (pc := 80) dL_isSo_80 0 rfl ?_
      refine j_calli cx (pc := 82) 2 (c_X7_link l D Y ad F (nI lk) (nI 1) hst) gL_isSo_X7_link rfl (by decide +kernel) rfl ⟨Nat.le_of_ble_eq_true rfl, Nat.le_of_ble_eq_true rfl⟩ (List.range 87) (FBx_s Y ad F _) nd_range87 (Bs' := FB Y ad F ++ [lwB Y la G]) (putL_same (FBx_s Y ad F _)) rfl 85 0 rfl rfl rfl rfl (Nat.le_of_ble_eq_true rfl) dL_isSo_82 ⟨Nat.zero_le _, Nat.zero_le _⟩ ?_
      refine j_aload_n cx (pc := 85) dL_isSo_85 7 rfl ?_
      refine j_iconst cx (pc := 86) (v := (nI 3)) dL_isSo_86 (by decide) ?_
      refine j_iload cx (pc := 87) dL_isSo_87 3 rfl ?_
      refine j_imulN cx (pc := 89) dL_isSo_89 ?_
      refine j_iload cx (pc := 90) dL_isSo_90 0 rfl ?_
      refine j_iaddN cx (pc := 92) dL_isSo_92 ?_
      refine j_iald cx (pc := 93) 87 1 0 (FBx_87 Y ad _ _) rfl rfl (by omega) (by decide) dL_isSo_93 ?_
      refine j_icmp_ne cx (pc := 94) (tgt := 143) dL_isSo_94 (by decide) (fun c94_23 => by exfalso; exact c94_23 (l0 1 (by decide))) (fun c94_23 => ?_)
      refine j_aload_n cx (pc := 97) dL_isSo_97 4 rfl ?_
      refine j_bipush cx (pc := 98) (v := (nI 10)) dL_isSo_98 (by decide) ?_
      refine j_iload cx (pc := 100) dL_isSo_100 0 rfl ?_
      refine j_iaddN cx (pc := 102) dL_isSo_102 ?_
      refine j_top (show nI (10 + 1) = nI 11 from rfl) ?_
      refine j_calli cx (pc := 103) 1 (c_X7_total l D Y ad F (nI 11) hst) gL_isSo_X7_total rfl (by decide +kernel) rfl ⟨Nat.le_of_ble_eq_true rfl, Nat.le_of_ble_eq_true rfl⟩ (List.range 87) (FBx_s Y ad F _) nd_range87 (Bs' := FB Y ad F ++ [lwB Y la G]) (putL_same (FBx_s Y ad F _)) rfl 85 0 rfl rfl rfl rfl (Nat.le_of_ble_eq_true rfl) dL_isSo_103 ⟨Nat.zero_le _, Nat.zero_le _⟩ ?_
      refine j_aload_n cx (pc := 106) dL_isSo_106 6 rfl ?_
      refine j_iload cx (pc := 107) dL_isSo_107 0 rfl ?_
      refine j_iald cx (pc := 109) 87 0 0 (FBx_87 Y ad _ _) rfl rfl (by decide) (by decide) dL_isSo_109 ?_
      refine j_icmp_ne cx (pc := 110) (tgt := 143) dL_isSo_110 (by decide) (fun c110_24 => by exfalso; exact c110_24 (ht 1 (by decide))) (fun c110_24 => ?_)
      refine j_aload_n cx (pc := 113) dL_isSo_113 4 rfl ?_
      refine j_iconst cx (pc := 114) (v := (nI 0)) dL_isSo_114 (by decide) ?_
      refine j_iload cx (pc := 115) dL_isSo_115 0 rfl ?_
      refine j_calli cx (pc := 117) 2 (c_X7_noted l D Y ad F (nI 0) (nI 1) hnt) gL_isSo_X7_noted rfl (by decide +kernel) rfl ⟨Nat.le_of_ble_eq_true rfl, Nat.le_of_ble_eq_true rfl⟩ (List.range 87) (FBx_s Y ad F _) nd_range87 (Bs' := FB Y ad F ++ [lwB Y la G]) (putL_same (FBx_s Y ad F _)) rfl 85 0 rfl rfl rfl rfl (Nat.le_of_ble_eq_true rfl) dL_isSo_117 ⟨Nat.zero_le _, Nat.zero_le _⟩ ?_
      refine j_aload_n cx (pc := 120) dL_isSo_120 6 rfl ?_
      refine j_iconst cx (pc := 121) (v := (nI 5)) dL_isSo_121 (by decide) ?_
      refine j_iald cx (pc := 122) 87 0 0 (FBx_87 Y ad _ _) rfl rfl (by decide) (by decide) dL_isSo_122 ?_
      refine j_if_ne cx (pc := 123) (tgt := 131) dL_isSo_123 (by decide) (fun c123_25 => by exfalso; first | omega | exact absurd c123_5 c123_25 | exact absurd c123_25 c123_5) (fun c123_25 => ?_)
      refine j_bipush cx (pc := 126) (v := (-5)) dL_isSo_126 (by decide) ?_
      refine j_goto cx (pc := 128) (tgt := 136) dL_isSo_128 (by decide) ?_
      refine j_icmp_ne cx (pc := 136) (tgt := 143) dL_isSo_136 (by decide) (fun c136_26 => by exfalso; exact c136_26 (by rw [hn 1 (by decide)]; first | rw [if_pos (by assumption)] | rw [if_neg (by assumption)])) (fun c136_26 => ?_)
      refine j_iconst cx (pc := 139) (v := (nI 1)) dL_isSo_139 (by decide) ?_
      refine j_goto cx (pc := 140) (tgt := 144) dL_isSo_140 (by decide) ?_
      refine j_istore cx (pc := 144) (lv' := [(10, .int (nI 1)), (12, .int (nI 1)), (11, .int (lsL (G 6) (tN (G 0 10)) 0 (-5))), (9, .int (nI lk)), (0, .ref (ad 8 2)), (1, .int x), (2, .ref (la 0)), (3, .ref (la 1)), (4, .ref (la 2)), (5, .ref (la 3)), (6, .ref (la 4)), (7, .ref (la 6)), (8, .ref (la 8))]) dL_isSo_144 (by decide) rfl ?_
      refine j_iinc cx (pc := 146) (v := (nI 2)) (lv' := [(12, .int (nI 2)), (10, .int (nI 1)), (11, .int (lsL (G 6) (tN (G 0 10)) 0 (-5))), (9, .int (nI lk)), (0, .ref (ad 8 2)), (1, .int x), (2, .ref (la 0)), (3, .ref (la 1)), (4, .ref (la 2)), (5, .ref (la 3)), (6, .ref (la 4)), (7, .ref (la 6)), (8, .ref (la 8))]) dL_isSo_146 1 rfl rfl (by decide) rfl ?_
      refine j_goto cx (pc := 149) (tgt := 66) dL_isSo_149 (by decide) ?_
      refine j_iload cx (pc := 66) dL_isSo_66 0 rfl ?_
      refine j_iconst cx (pc := 68) (v := (nI 3)) dL_isSo_68 (by decide) ?_
      refine j_icmpN_ge cx (pc := 69) (by decide) (by decide) (tgt := 152) dL_isSo_69 (by decide) (fun c69_27 => by exfalso; revert c69_27; decide) (fun c69_27 => ?_)
      refine j_iload cx (pc := 72) dL_isSo_72 1 rfl ?_
      refine j_ifN_eq cx (pc := 74) (by decide) (tgt := 143) dL_isSo_74 (by decide) (fun c74_28 => by exfalso; revert c74_28; decide) (fun c74_28 => ?_)
      refine j_aload_n cx (pc := 77) dL_isSo_77 4 rfl ?_
      refine j_iload cx (pc := 78) dL_isSo_78 3 rfl ?_
      refine j_iload cx (pc := 80) dL_isSo_80 0 rfl ?_
      refine j_calli cx (pc := 82) 2 (c_X7_link l D Y ad F (nI lk) (nI 2) hst) gL_isSo_X7_link rfl (by decide +kernel) rfl ⟨Nat.le_of_ble_eq_true rfl, Nat.le_of_ble_eq_true rfl⟩ (List.range 87) (FBx_s Y ad F _) nd_range87 (Bs' := FB Y ad F ++ [lwB Y la G]) (putL_same (FBx_s Y ad F _)) rfl 85 0 rfl rfl rfl rfl (Nat.le_of_ble_eq_true rfl) dL_isSo_82 ⟨Nat.zero_le _, Nat.zero_le _⟩ ?_
      refine j_aload_n cx (pc := 85) dL_isSo_85 7 rfl ?_
      refine j_iconst cx (pc := 86) (v := (nI 3)) dL_isSo_86 (by decide) ?_
      refine j_iload cx (pc := 87) dL_isSo_87 3 rfl ?_
      refine j_imulN cx (pc := 89) dL_isSo_89 ?_
      refine j_iload cx (pc := 90) dL_isSo_90 0 rfl ?_
      refine j_iaddN cx (pc := 92) dL_isSo_92 ?_
      refine j_iald cx (pc := 93) 87 1 0 (FBx_87 Y ad _ _) rfl rfl (by omega) (by decide) dL_isSo_93 ?_
      refine j_icmp_ne cx (pc := 94) (tgt := 143) dL_isSo_94 (by decide) (fun c94_29 => by exfalso; exact c94_29 (l0 2 (by decide))) (fun c94_29 => ?_)
      refine j_aload_n cx (pc := 97) dL_isSo_97 4 rfl ?_
      refine j_bipush cx (pc := 98) (v := (nI 10)) dL_isSo_98 (by decide) ?_
      refine j_iload cx (pc := 100) dL_isSo_100 0 rfl ?_
      refine j_iaddN cx (pc := 102) dL_isSo_102 ?_
      refine j_top (show nI (10 + 2) = nI 12 from rfl) ?_
      refine j_calli cx (pc := 103) 1 (c_X7_total l D Y ad F (nI 12) hst) gL_isSo_X7_total rfl (by decide +kernel) rfl ⟨Nat.le_of_ble_eq_true rfl, Nat.le_of_ble_eq_true rfl⟩ (List.range 87) (FBx_s Y ad F _) nd_range87 (Bs' := FB Y ad F ++ [lwB Y la G]) (putL_same (FBx_s Y ad F _)) rfl 85 0 rfl rfl rfl rfl (Nat.le_of_ble_eq_true rfl) dL_isSo_103 ⟨Nat.zero_le _, Nat.zero_le _⟩ ?_
      refine j_aload_n cx (pc := 106) dL_isSo_106 6 rfl ?_
      refine j_iload cx (pc := 107) dL_isSo_107 0 rfl ?_
      refine j_iald cx (pc := 109) 87 0 0 (FBx_87 Y ad _ _) rfl rfl (by decide) (by decide) dL_isSo_109 ?_
      refine j_icmp_ne cx (pc := 110) (tgt := 143) dL_isSo_110 (by decide) (fun c110_30 => by exfalso; exact c110_30 (ht 2 (by decide))) (fun c110_30 => ?_)
      refine j_aload_n cx (pc := 113) dL_isSo_113 4 rfl ?_
      refine j_iconst cx (pc := 114) (v := (nI 0)) dL_isSo_114 (by decide) ?_
      refine j_iload cx (pc := 115) dL_isSo_115 0 rfl ?_
      refine j_calli cx (pc := 117) 2 (c_X7_noted l D Y ad F (nI 0) (nI 2) hnt) gL_isSo_X7_noted rfl (by decide +kernel) rfl ⟨Nat.le_of_ble_eq_true rfl, Nat.le_of_ble_eq_true rfl⟩ (List.range 87) (FBx_s Y ad F _) nd_range87 (Bs' := FB Y ad F ++ [lwB Y la G]) (putL_same (FBx_s Y ad F _)) rfl 85 0 rfl rfl rfl rfl (Nat.le_of_ble_eq_true rfl) dL_isSo_117 ⟨Nat.zero_le _, Nat.zero_le _⟩ ?_
      refine j_aload_n cx (pc := 120) dL_isSo_120 6 rfl ?_
      refine j_iconst cx (pc := 121) (v := (nI 5)) dL_isSo_121 (by decide) ?_
      refine j_iald cx (pc := 122) 87 0 0 (FBx_87 Y ad _ _) rfl rfl (by decide) (by decide) dL_isSo_122 ?_
      refine j_if_ne cx (pc := 123) (tgt := 131) dL_isSo_123 (by decide) (fun c123_31 => by exfalso; first | omega | exact absurd c123_5 c123_31 | exact absurd c123_31 c123_5) (fun c123_31 => ?_)
      refine j_bipush cx (pc := 126) (v := (-5)) dL_isSo_126 (by decide) ?_
      refine j_goto cx (pc := 128) (tgt := 136) dL_isSo_128 (by decide) ?_
      refine j_icmp_ne cx (pc := 136) (tgt := 143) dL_isSo_136 (by decide) (fun c136_32 => by exfalso; exact c136_32 (by rw [hn 2 (by decide)]; first | rw [if_pos (by assumption)] | rw [if_neg (by assumption)])) (fun c136_32 => ?_)
      refine j_iconst cx (pc := 139) (v := (nI 1)) dL_isSo_139 (by decide) ?_
      refine j_goto cx (pc := 140) (tgt := 144) dL_isSo_140 (by decide) ?_
      refine j_istore cx (pc := 144) (lv' := [(10, .int (nI 1)), (12, .int (nI 2)), (11, .int (lsL (G 6) (tN (G 0 10)) 0 (-5))), (9, .int (nI lk)), (0, .ref (ad 8 2)), (1, .int x), (2, .ref (la 0)), (3, .ref (la 1)), (4, .ref (la 2)), (5, .ref (la 3)), (6, .ref (la 4)), (7, .ref (la 6)), (8, .ref (la 8))]) dL_isSo_144 (by decide) rfl ?_
      refine j_iinc cx (pc := 146) (v := (nI 3)) (lv' := [(12, .int (nI 3)), (10, .int (nI 1)), (11, .int (lsL (G 6) (tN (G 0 10)) 0 (-5))), (9, .int (nI lk)), (0, .ref (ad 8 2)), (1, .int x), (2, .ref (la 0)), (3, .ref (la 1)), (4, .ref (la 2)), (5, .ref (la 3)), (6, .ref (la 4)), (7, .ref (la 6)), (8, .ref (la 8))]) dL_isSo_146 1 rfl rfl (by decide) rfl ?_
      refine j_goto cx (pc := 149) (tgt := 66) dL_isSo_149 (by decide) ?_
      refine j_iload cx (pc := 66) dL_isSo_66 0 rfl ?_
      refine j_iconst cx (pc := 68) (v := (nI 3)) dL_isSo_68 (by decide) ?_
      refine j_icmpN_ge cx (pc := 69) (by decide) (by decide) (tgt := 152) dL_isSo_69 (by decide) (fun c69_33 => ?_) (fun c69_33 => by exfalso; revert c69_33; decide)
      refine j_lvm (lv' := [(10, .int (nI 1)), (11, .int (lsL (G 6) (tN (G 0 10)) 0 (-5))), (9, .int (nI lk)), (0, .ref (ad 8 2)), (1, .int x), (2, .ref (la 0)), (3, .ref (la 1)), (4, .ref (la 2)), (5, .ref (la 3)), (6, .ref (la 4)), (7, .ref (la 6)), (8, .ref (la 8))]) (by intro z hz; simp only [List.mem_cons, List.not_mem_nil, or_false] at hz ⊢; rcases hz with rfl | rfl | rfl | rfl | rfl | rfl | rfl | rfl | rfl | rfl | rfl | rfl <;> simp) ?_
      exact K152
  have lp : ∀ (q k : Nat) (y : Int32), k + q = tN (G 0 10) → lsL (G 6) q k y = (lsL (G 6) (tN (G 0 10)) 0 (-5)) → J p l e { frames := 2, cells := 0, slots := 0, locals := 45 } s m args below meth c 15 D A 0 0 Q (FB Y ad F ++ [lwB Y la G]) 21 [(11, .int y), (12, .int (nI k)), (10, .int (nI 1)), (9, .int (nI lk)), (0, .ref (ad 8 2)), (1, .int x), (2, .ref (la 0)), (3, .ref (la 1)), (4, .ref (la 2)), (5, .ref (la 3)), (6, .ref (la 4)), (7, .ref (la 6)), (8, .ref (la 8))] [] := by
    intro q
    induction q with
    | zero =>
      intro k y hk hy
      have hy2 : y = (lsL (G 6) (tN (G 0 10)) 0 (-5)) := hy
      refine j_iload cx (pc := 21) dL_isSo_21 1 rfl ?_
      refine j_aload_n cx (pc := 23) dL_isSo_23 6 rfl ?_
      refine j_bipush cx (pc := 24) (v := nI 10) dL_isSo_24 (by decide) ?_
      refine j_iald cx (pc := 26) 87 0 0 (FBx_87 Y ad _ _) rfl rfl (by decide) (by decide) dL_isSo_26 ?_
      refine j_top (show G 0 10 = nI (tN (G 0 10)) from inN cn0) ?_
      refine j_icmpN_ge cx (pc := 27) (by omega) (by omega) (tgt := 63) dL_isSo_27 (by decide) (fun _ => ?_) (fun h => by exfalso; omega)
      rw [hy2]
      refine j_lv (lv' := [(10, .int (nI 1)), (11, .int (lsL (G 6) (tN (G 0 10)) 0 (-5))), (9, .int (nI lk)), (0, .ref (ad 8 2)), (1, .int x), (2, .ref (la 0)), (3, .ref (la 1)), (4, .ref (la 2)), (5, .ref (la 3)), (6, .ref (la 4)), (7, .ref (la 6)), (8, .ref (la 8))]) [2, 0, 3, 4, 5, 6, 7, 8, 9, 10, 11, 12] rfl ?_
      exact K63
    | succ q ih =>
      intro k y hk hy
      refine j_iload cx (pc := 21) dL_isSo_21 1 rfl ?_
      refine j_aload_n cx (pc := 23) dL_isSo_23 6 rfl ?_
      refine j_bipush cx (pc := 24) (v := nI 10) dL_isSo_24 (by decide) ?_
      refine j_iald cx (pc := 26) 87 0 0 (FBx_87 Y ad _ _) rfl rfl (by decide) (by decide) dL_isSo_26 ?_
      refine j_top (show G 0 10 = nI (tN (G 0 10)) from inN cn0) ?_
      refine j_icmpN_ge cx (pc := 27) (by omega) (by omega) (tgt := 63) dL_isSo_27 (by decide) (fun h => by exfalso; omega) (fun _ => ?_)
      have fin : ∀ z : Int32, lsL (G 6) q (k + 1) z = (lsL (G 6) (tN (G 0 10)) 0 (-5)) → J p l e { frames := 2, cells := 0, slots := 0, locals := 45 } s m args below meth c 15 D A 0 0 Q (FB Y ad F ++ [lwB Y la G]) 55 [(11, .int y), (12, .int (nI k)), (10, .int (nI 1)), (9, .int (nI lk)), (0, .ref (ad 8 2)), (1, .int x), (2, .ref (la 0)), (3, .ref (la 1)), (4, .ref (la 2)), (5, .ref (la 3)), (6, .ref (la 4)), (7, .ref (la 6)), (8, .ref (la 8))] [.int z] := by
        intro z hz
        refine j_istore cx (pc := 55) (lv' := [(11, .int z), (12, .int (nI k)), (10, .int (nI 1)), (9, .int (nI lk)), (0, .ref (ad 8 2)), (1, .int x), (2, .ref (la 0)), (3, .ref (la 1)), (4, .ref (la 2)), (5, .ref (la 3)), (6, .ref (la 4)), (7, .ref (la 6)), (8, .ref (la 8))]) dL_isSo_55 (by decide) rfl ?_
        refine j_iinc cx (pc := 57) (v := nI (k + 1)) (lv' := [(12, .int (nI (k + 1))), (11, .int z), (10, .int (nI 1)), (9, .int (nI lk)), (0, .ref (ad 8 2)), (1, .int x), (2, .ref (la 0)), (3, .ref (la 1)), (4, .ref (la 2)), (5, .ref (la 3)), (6, .ref (la 4)), (7, .ref (la 6)), (8, .ref (la 8))]) dL_isSo_57 1 rfl (show nI k + nI 1 = nI (k + 1) from nI_add _ _) (by decide) rfl ?_
        refine j_goto cx (pc := 60) (tgt := 21) dL_isSo_60 (by decide) ?_
        refine j_lv (lv' := [(11, .int z), (12, .int (nI (k + 1))), (10, .int (nI 1)), (9, .int (nI lk)), (0, .ref (ad 8 2)), (1, .int x), (2, .ref (la 0)), (3, .ref (la 1)), (4, .ref (la 2)), (5, .ref (la 3)), (6, .ref (la 4)), (7, .ref (la 6)), (8, .ref (la 8))]) [1, 0, 2, 3, 4, 5, 6, 7, 8, 9, 10, 11, 12] rfl ?_
        exact ih (k + 1) z (by omega) hz
      have k45 : lsL (G 6) q (k + 1) (G 6 k) = (lsL (G 6) (tN (G 0 10)) 0 (-5)) → J p l e { frames := 2, cells := 0, slots := 0, locals := 45 } s m args below meth c 15 D A 0 0 Q (FB Y ad F ++ [lwB Y la G]) 45 [(11, .int y), (12, .int (nI k)), (10, .int (nI 1)), (9, .int (nI lk)), (0, .ref (ad 8 2)), (1, .int x), (2, .ref (la 0)), (3, .ref (la 1)), (4, .ref (la 2)), (5, .ref (la 3)), (6, .ref (la 4)), (7, .ref (la 6)), (8, .ref (la 8))] [] := by
        intro h
        refine j_aload cx (pc := 45) dL_isSo_45 11 rfl ?_
        refine j_iload cx (pc := 47) dL_isSo_47 1 rfl ?_
        refine j_iald cx (pc := 49) 87 6 0 (FBx_87 Y ad _ _) rfl rfl (by omega) (by decide) dL_isSo_49 ?_
        refine j_goto cx (pc := 50) (tgt := 55) dL_isSo_50 (by decide) ?_
        exact fin _ h
      refine j_iload cx (pc := 30) dL_isSo_30 0 rfl ?_
      refine j_if_lt cx (pc := 32) (tgt := 45) dL_isSo_32 (by decide) (fun z => ?_) (fun z => ?_)
      · exact k45 (by rw [← hy]; show _ = lsL (G 6) q (k + 1) (if y < 0 then G 6 k else if G 6 k < y then G 6 k else y); rw [if_pos z])
      · refine j_aload cx (pc := 35) dL_isSo_35 11 rfl ?_
        refine j_iload cx (pc := 37) dL_isSo_37 1 rfl ?_
        refine j_iald cx (pc := 39) 87 6 0 (FBx_87 Y ad _ _) rfl rfl (by omega) (by decide) dL_isSo_39 ?_
        refine j_iload cx (pc := 40) dL_isSo_40 0 rfl ?_
        refine j_icmp_ge cx (pc := 42) (tgt := 53) dL_isSo_42 (by decide) (fun z2 => ?_) (fun z2 => ?_)
        · refine j_iload cx (pc := 53) dL_isSo_53 0 rfl ?_
          refine fin _ ?_
          rw [← hy]; show _ = lsL (G 6) q (k + 1) (if y < 0 then G 6 k else if G 6 k < y then G 6 k else y)
          rw [if_neg z, if_neg (Int32.not_lt.mpr z2)]
        · refine k45 ?_
          rw [← hy]; show _ = lsL (G 6) q (k + 1) (if y < 0 then G 6 k else if G 6 k < y then G 6 k else y)
          rw [if_neg z, if_pos (Int32.not_le.mp z2)]
  refine j_iload_n cx (pc := 0) dL_isSo_0 1 rfl ?_
  refine j_aload_n cx (pc := 1) dL_isSo_1 2 rfl ?_
  refine j_iconst cx (pc := 2) (v := (nI 3)) dL_isSo_2 (by decide) ?_
  refine j_iald cx (pc := 3) 87 0 0 (FBx_87 Y ad _ _) rfl rfl (by decide) (by decide) dL_isSo_3 ?_
  refine j_top (show (G 0 3) = (nI (tN (G 0 3))) from inN sg0) ?_
  refine j_iconst cx (pc := 4) (v := (nI 1)) dL_isSo_4 (by decide) ?_
  refine j_iaddN cx (pc := 5) dL_isSo_5 ?_
  refine j_calls cx (pc := 6) 2 (c_L_low l D Y x ((tN (G 0 3)) + 1) (by omega) (by omega)) gL_isSo_L_low rfl (by decide +kernel) rfl ⟨Nat.le_of_ble_eq_true rfl, Nat.le_of_ble_eq_true rfl⟩ rfl (Nat.le_of_ble_eq_true rfl) dL_isSo_6 ⟨Nat.zero_le _, Nat.zero_le _⟩ ?_
  refine j_top (show (nI (CL_low x ((tN (G 0 3)) + 1))) = (nI lk) from (by rw [hlk])) ?_
  refine j_istore cx (pc := 9) (lv' := [(9, .int (nI lk)), (0, .ref (ad 8 2)), (1, .int x), (2, .ref (la 0)), (3, .ref (la 1)), (4, .ref (la 2)), (5, .ref (la 3)), (6, .ref (la 4)), (7, .ref (la 6)), (8, .ref (la 8))]) dL_isSo_9 (by decide) rfl ?_
  refine j_iconst cx (pc := 11) (v := (nI 1)) dL_isSo_11 (by decide) ?_
  refine j_istore cx (pc := 12) (lv' := [(10, .int (nI 1)), (9, .int (nI lk)), (0, .ref (ad 8 2)), (1, .int x), (2, .ref (la 0)), (3, .ref (la 1)), (4, .ref (la 2)), (5, .ref (la 3)), (6, .ref (la 4)), (7, .ref (la 6)), (8, .ref (la 8))]) dL_isSo_12 (by decide) rfl ?_
  refine j_bipush cx (pc := 14) (v := (-5)) dL_isSo_14 (by decide) ?_
  refine j_istore cx (pc := 16) (lv' := [(11, .int (-5)), (10, .int (nI 1)), (9, .int (nI lk)), (0, .ref (ad 8 2)), (1, .int x), (2, .ref (la 0)), (3, .ref (la 1)), (4, .ref (la 2)), (5, .ref (la 3)), (6, .ref (la 4)), (7, .ref (la 6)), (8, .ref (la 8))]) dL_isSo_16 (by decide) rfl ?_
  refine j_iconst cx (pc := 18) (v := (nI 0)) dL_isSo_18 (by decide) ?_
  refine j_istore cx (pc := 19) (lv' := [(12, .int (nI 0)), (11, .int (-5)), (10, .int (nI 1)), (9, .int (nI lk)), (0, .ref (ad 8 2)), (1, .int x), (2, .ref (la 0)), (3, .ref (la 1)), (4, .ref (la 2)), (5, .ref (la 3)), (6, .ref (la 4)), (7, .ref (la 6)), (8, .ref (la 8))]) dL_isSo_19 (by decide) rfl ?_
  refine j_lvm (lv' := [(11, .int (-5)), (12, .int (nI 0)), (10, .int (nI 1)), (9, .int (nI lk)), (0, .ref (ad 8 2)), (1, .int x), (2, .ref (la 0)), (3, .ref (la 1)), (4, .ref (la 2)), (5, .ref (la 3)), (6, .ref (la 4)), (7, .ref (la 6)), (8, .ref (la 8))]) (by intro z hz; simp only [List.mem_cons, List.not_mem_nil, or_false] at hz ⊢; rcases hz with rfl | rfl | rfl | rfl | rfl | rfl | rfl | rfl | rfl | rfl | rfl | rfl | rfl <;> simp) ?_
  exact lp (tN (G 0 10)) 0 (-5) (by omega) rfl
