/-! calls of the law, both sides -/
section LCS5
variable {p : Program} {l : Launch} {e : Env} {s : State} {m : MethodId} {args : Array Value} {below : List Frame} {meth : Method} {c : Code} {D : va_G} {Y : Nat → ClassId} {A : Nat → Prop} {cells slots : Nat} {Q : State → Prop} {b L : Nat} {xs : Nat → Int32} {ad : Nat → Nat → Nat} {mo : Nat → Nat} {F : Nat → Nat → Nat → Int32} {M : Nat → Nat → Int32} {i cN : Nat}
set_option maxHeartbeats 4000000 in
set_option maxRecDepth 100000 in
theorem lc_next (h : LC p s m args meth c D Y A b L xs) (hcs : cells ≤ room_1.cells ∧ slots ≤ room_1.slots) (hi : i + 4 ≤ L) (hw : Wh cN F M) (hc : cN + 50 < 2 ^ 29) (kk : ∀ F' M', Wh (cN + 20) F' M' → J p l e room_1 s m args below meth c 4 D A cells slots Q (FB Y ad F' ++ [moB Y mo M']) 624 (lvL b (ad 8 2) (mo 0) i) []) : J p l e room_1 s m args below meth c 4 D A cells slots Q (FB Y ad F ++ [moB Y mo M]) 539 (lvL b (ad 8 2) (mo 0) i) [] := by
  obtain ⟨m11, m12, m9, m10, m00, m3, m31⟩ := Wh_mn hw
  obtain ⟨L9, n9, p9, nS9, t9, ph9, r9, i9, ht9, o9⟩ := id hw.1
  have eq := Q_next r9 i9 (by omega)
  refine j_aload_n h.1 (pc := 539) dL_law_539 2 rfl ?_
  refine lw_c7 h (pc := 540) 0 (c_X7_next l D Y ad F (Gd_wf hw.1).1) gL_law_X7_next rfl (by decide +kernel) rfl ⟨Nat.le_of_ble_eq_true rfl, Nat.le_of_ble_eq_true rfl⟩ rfl (Nat.le_of_ble_eq_true rfl) dL_law_540 hcs ?_
  refine j_aload_n h.1 (pc := 543) dL_law_543 3 rfl ?_
  refine lw_c8 h (pc := 544) 0 (c_X8_next l D Y mo M (vp_mono m10 (by decide))) gL_law_X8_next rfl (by decide +kernel) rfl ⟨Nat.le_of_ble_eq_true rfl, Nat.le_of_ble_eq_true rfl⟩ rfl (Nat.le_of_ble_eq_true rfl) dL_law_544 hcs ?_
  exact j_icmp_eq h.1 (pc := 547) (tgt := 624) dL_law_547 (by decide) (fun _ => kk _ _ (Wh_up hw (by omega))) (fun z => absurd eq z)
set_option maxHeartbeats 4000000 in
set_option maxRecDepth 100000 in
theorem lc_quietIn (h : LC p s m args meth c D Y A b L xs) (hcs : cells ≤ room_1.cells ∧ slots ≤ room_1.slots) (hi : i + 4 ≤ L) (hw : Wh cN F M) (hc : cN + 50 < 2 ^ 29) (kk : ∀ F' M', Wh (cN + 20) F' M' → J p l e room_1 s m args below meth c 4 D A cells slots Q (FB Y ad F' ++ [moB Y mo M']) 624 (lvL b (ad 8 2) (mo 0) i) []) : J p l e room_1 s m args below meth c 4 D A cells slots Q (FB Y ad F ++ [moB Y mo M]) 552 (lvL b (ad 8 2) (mo 0) i) [] := by
  obtain ⟨m11, m12, m9, m10, m00, m3, m31⟩ := Wh_mn hw
  obtain ⟨la, se, -, -, -, eq, w⟩ := P_finish hw (by omega)
  refine j_aload_n h.1 (pc := 552) dL_law_552 2 rfl ?_
  refine lw_c7 h (pc := 553) 0 (c_X7_quietIn l D Y ad F (Gd_bo hw.1) la) gL_law_X7_quietIn rfl (by decide +kernel) rfl ⟨Nat.le_of_ble_eq_true rfl, Nat.le_of_ble_eq_true rfl⟩ rfl (Nat.le_of_ble_eq_true rfl) dL_law_553 hcs ?_
  refine j_aload_n h.1 (pc := 556) dL_law_556 3 rfl ?_
  refine lw_c8 h (pc := 557) 0 (c_X8_quietIn l D Y mo M se) gL_law_X8_quietIn rfl (by decide +kernel) rfl ⟨Nat.le_of_ble_eq_true rfl, Nat.le_of_ble_eq_true rfl⟩ rfl (Nat.le_of_ble_eq_true rfl) dL_law_557 hcs ?_
  exact j_icmp_eq h.1 (pc := 560) (tgt := 624) dL_law_560 (by decide) (fun _ => kk _ _ (Wh_up w (by omega))) (fun z => absurd eq z)
set_option maxHeartbeats 4000000 in
set_option maxRecDepth 100000 in
theorem lc_ifLead (h : LC p s m args meth c D Y A b L xs) (hcs : cells ≤ room_1.cells ∧ slots ≤ room_1.slots) (hi : i + 4 ≤ L) (hw : Wh cN F M) (hc : cN + 50 < 2 ^ 29) (kk : ∀ F' M', Wh (cN + 20) F' M' → J p l e room_1 s m args below meth c 4 D A cells slots Q (FB Y ad F' ++ [moB Y mo M']) 624 (lvL b (ad 8 2) (mo 0) i) []) : J p l e room_1 s m args below meth c 4 D A cells slots Q (FB Y ad F ++ [moB Y mo M]) 565 (lvL b (ad 8 2) (mo 0) i) [] := by
  obtain ⟨m11, m12, m9, m10, m00, m3, m31⟩ := Wh_mn hw
  obtain ⟨la, se, eq, w⟩ := P_ifLead hw (by omega) (xs (i + 1)) (xs (i + 2))
  refine j_aload_n h.1 (pc := 565) dL_law_565 2 rfl ?_
  refine lw_arg h (pc := 566) 1 1 (by decide) (by omega) dL_law_566 dL_law_567 dL_law_568 dL_law_569 dL_law_570 ?_
  refine lw_arg h (pc := 571) 2 2 (by decide) (by omega) dL_law_571 dL_law_572 dL_law_573 dL_law_574 dL_law_575 ?_
  refine lw_c7 h (pc := 576) 2 (c_X7_ifLead l D Y ad F (xs (i + 1)) (xs (i + 2)) (Gd_bo hw.1) la) gL_law_X7_ifLead rfl (by decide +kernel) rfl ⟨Nat.le_of_ble_eq_true rfl, Nat.le_of_ble_eq_true rfl⟩ rfl (Nat.le_of_ble_eq_true rfl) dL_law_576 hcs ?_
  refine j_aload_n h.1 (pc := 579) dL_law_579 3 rfl ?_
  refine lw_arg h (pc := 580) 1 1 (by decide) (by omega) dL_law_580 dL_law_581 dL_law_582 dL_law_583 dL_law_584 ?_
  refine lw_arg h (pc := 585) 2 2 (by decide) (by omega) dL_law_585 dL_law_586 dL_law_587 dL_law_588 dL_law_589 ?_
  refine lw_c8 h (pc := 590) 2 (c_X8_ifLead l D Y mo M (xs (i + 1)) (xs (i + 2)) se) gL_law_X8_ifLead rfl (by decide +kernel) rfl ⟨Nat.le_of_ble_eq_true rfl, Nat.le_of_ble_eq_true rfl⟩ rfl (Nat.le_of_ble_eq_true rfl) dL_law_590 hcs ?_
  exact j_icmp_eq h.1 (pc := 593) (tgt := 624) dL_law_593 (by decide) (fun _ => kk _ _ (Wh_up w (by omega))) (fun z => absurd eq z)
set_option maxHeartbeats 4000000 in
set_option maxRecDepth 100000 in
theorem lc_leastLead (h : LC p s m args meth c D Y A b L xs) (hcs : cells ≤ room_1.cells ∧ slots ≤ room_1.slots) (hi : i + 4 ≤ L) (hw : Wh cN F M) (hc : cN + 50 < 2 ^ 29) (kk : ∀ F' M', Wh (cN + 20) F' M' → J p l e room_1 s m args below meth c 4 D A cells slots Q (FB Y ad F' ++ [moB Y mo M']) 624 (lvL b (ad 8 2) (mo 0) i) []) : J p l e room_1 s m args below meth c 4 D A cells slots Q (FB Y ad F ++ [moB Y mo M]) 598 (lvL b (ad 8 2) (mo 0) i) [] := by
  obtain ⟨m11, m12, m9, m10, m00, m3, m31⟩ := Wh_mn hw
  obtain ⟨la, se, eq, w⟩ := P_least hw (by omega)
  refine j_aload_n h.1 (pc := 598) dL_law_598 2 rfl ?_
  refine lw_c7 h (pc := 599) 0 (c_X7_leastLead l D Y ad F (Gd_bo hw.1) la) gL_law_X7_leastLead rfl (by decide +kernel) rfl ⟨Nat.le_of_ble_eq_true rfl, Nat.le_of_ble_eq_true rfl⟩ rfl (Nat.le_of_ble_eq_true rfl) dL_law_599 hcs ?_
  refine j_aload_n h.1 (pc := 602) dL_law_602 3 rfl ?_
  refine lw_c8 h (pc := 603) 0 (c_X8_leastLead l D Y mo M se) gL_law_X8_leastLead rfl (by decide +kernel) rfl ⟨Nat.le_of_ble_eq_true rfl, Nat.le_of_ble_eq_true rfl⟩ rfl (Nat.le_of_ble_eq_true rfl) dL_law_603 hcs ?_
  exact j_icmp_eq h.1 (pc := 606) (tgt := 624) dL_law_606 (by decide) (fun _ => kk _ _ (Wh_up w (by omega))) (fun z => absurd eq z)
set_option maxHeartbeats 4000000 in
set_option maxRecDepth 100000 in
theorem lc_dearest (h : LC p s m args meth c D Y A b L xs) (hcs : cells ≤ room_1.cells ∧ slots ≤ room_1.slots) (hi : i + 4 ≤ L) (hw : Wh cN F M) (hc : cN + 50 < 2 ^ 29) (kk : ∀ F' M', Wh (cN + 20) F' M' → J p l e room_1 s m args below meth c 4 D A cells slots Q (FB Y ad F' ++ [moB Y mo M']) 624 (lvL b (ad 8 2) (mo 0) i) []) : J p l e room_1 s m args below meth c 4 D A cells slots Q (FB Y ad F ++ [moB Y mo M]) 611 (lvL b (ad 8 2) (mo 0) i) [] := by
  obtain ⟨m11, m12, m9, m10, m00, m3, m31⟩ := Wh_mn hw
  obtain ⟨st, la, se, eq, w⟩ := P_dear hw (by omega)
  refine j_aload_n h.1 (pc := 611) dL_law_611 2 rfl ?_
  refine lw_c7 h (pc := 612) 0 (c_X7_dearestB l D Y ad F (Gd_bo hw.1) st la) gL_law_X7_dearest rfl (by decide +kernel) rfl ⟨Nat.le_of_ble_eq_true rfl, Nat.le_of_ble_eq_true rfl⟩ rfl (Nat.le_of_ble_eq_true rfl) dL_law_612 hcs ?_
  refine j_aload_n h.1 (pc := 615) dL_law_615 3 rfl ?_
  refine lw_c8 h (pc := 616) 0 (c_X8_dearest l D Y mo M m3 se) gL_law_X8_dearest rfl (by decide +kernel) rfl ⟨Nat.le_of_ble_eq_true rfl, Nat.le_of_ble_eq_true rfl⟩ rfl (Nat.le_of_ble_eq_true rfl) dL_law_616 hcs ?_
  exact j_icmp_eq h.1 (pc := 619) (tgt := 624) dL_law_619 (by decide) (fun _ => kk _ _ (Wh_up w (by omega))) (fun z => absurd eq z)
end LCS5
