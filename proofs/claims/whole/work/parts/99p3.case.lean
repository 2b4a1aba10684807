/-! calls of the law, both sides -/
section LCS3
variable {p : Program} {l : Launch} {e : Env} {s : State} {m : MethodId} {args : Array Value} {below : List Frame} {meth : Method} {c : Code} {D : va_G} {Y : Nat → ClassId} {A : Nat → Prop} {cells slots : Nat} {Q : State → Prop} {b L : Nat} {xs : Nat → Int32} {ad : Nat → Nat → Nat} {mo : Nat → Nat} {F : Nat → Nat → Nat → Int32} {M : Nat → Nat → Int32} {i cN : Nat}
set_option maxHeartbeats 4000000 in
set_option maxRecDepth 100000 in
theorem lc_perform (h : LC p s m args meth c D Y A b L xs) (hcs : cells ≤ room_1.cells ∧ slots ≤ room_1.slots) (hi : i + 4 ≤ L) (hw : Wh cN F M) (hc : cN + 50 < 2 ^ 29) (kk : ∀ F' M', Wh (cN + 20) F' M' → J p l e room_1 s m args below meth c 4 D A cells slots Q (FB Y ad F' ++ [moB Y mo M']) 624 (lvL b (ad 8 2) (mo 0) i) []) : J p l e room_1 s m args below meth c 4 D A cells slots Q (FB Y ad F ++ [moB Y mo M]) 342 (lvL b (ad 8 2) (mo 0) i) [] := by
  obtain ⟨m11, m12, m9, m10, m00, m3, m31⟩ := Wh_mn hw
  obtain ⟨ff, mp, tk, po, eq, w⟩ := P_perform hw (by omega)
  refine j_aload_n h.1 (pc := 342) dL_law_342 2 rfl ?_
  refine lw_c7 h (pc := 343) 0 (c_X7_perform l D Y ad F (Hs_hi hw.2.1) (Gd_bo hw.1) tk po) gL_law_X7_perform rfl (by decide +kernel) rfl ⟨Nat.le_of_ble_eq_true rfl, Nat.le_of_ble_eq_true rfl⟩ rfl (Nat.le_of_ble_eq_true rfl) dL_law_343 hcs ?_
  refine j_aload_n h.1 (pc := 346) dL_law_346 3 rfl ?_
  refine lw_c8 h (pc := 347) 0 (c_X8_perform l D Y mo M ff mp) gL_law_X8_perform rfl (by decide +kernel) rfl ⟨Nat.le_of_ble_eq_true rfl, Nat.le_of_ble_eq_true rfl⟩ rfl (Nat.le_of_ble_eq_true rfl) dL_law_347 hcs ?_
  exact j_icmp_eq h.1 (pc := 350) (tgt := 624) dL_law_350 (by decide) (fun _ => kk _ _ w) (fun z => absurd eq z)
set_option maxHeartbeats 4000000 in
set_option maxRecDepth 100000 in
theorem lc_undo (h : LC p s m args meth c D Y A b L xs) (hcs : cells ≤ room_1.cells ∧ slots ≤ room_1.slots) (hi : i + 4 ≤ L) (hw : Wh cN F M) (hc : cN + 50 < 2 ^ 29) (kk : ∀ F' M', Wh (cN + 20) F' M' → J p l e room_1 s m args below meth c 4 D A cells slots Q (FB Y ad F' ++ [moB Y mo M']) 624 (lvL b (ad 8 2) (mo 0) i) []) : J p l e room_1 s m args below meth c 4 D A cells slots Q (FB Y ad F ++ [moB Y mo M]) 355 (lvL b (ad 8 2) (mo 0) i) [] := by
  obtain ⟨m11, m12, m9, m10, m00, m3, m31⟩ := Wh_mn hw
  obtain ⟨b1, eq, w⟩ := P_undo hw
  refine j_aload_n h.1 (pc := 355) dL_law_355 2 rfl ?_
  refine lw_c7 h (pc := 356) 0 (c_X7_undo l D Y ad F (Hs_hi hw.2.1) b1) gL_law_X7_undo rfl (by decide +kernel) rfl ⟨Nat.le_of_ble_eq_true rfl, Nat.le_of_ble_eq_true rfl⟩ rfl (Nat.le_of_ble_eq_true rfl) dL_law_356 hcs ?_
  refine j_aload_n h.1 (pc := 359) dL_law_359 3 rfl ?_
  refine lw_c8 h (pc := 360) 0 (c_X8_undo l D Y mo M m00) gL_law_X8_undo rfl (by decide +kernel) rfl ⟨Nat.le_of_ble_eq_true rfl, Nat.le_of_ble_eq_true rfl⟩ rfl (Nat.le_of_ble_eq_true rfl) dL_law_360 hcs ?_
  exact j_icmp_eq h.1 (pc := 363) (tgt := 624) dL_law_363 (by decide) (fun _ => kk _ _ (Wh_up w (by omega))) (fun z => absurd eq z)
set_option maxHeartbeats 4000000 in
set_option maxRecDepth 100000 in
theorem lc_keep (h : LC p s m args meth c D Y A b L xs) (hcs : cells ≤ room_1.cells ∧ slots ≤ room_1.slots) (hi : i + 4 ≤ L) (hw : Wh cN F M) (hc : cN + 50 < 2 ^ 29) (kk : ∀ F' M', Wh (cN + 20) F' M' → J p l e room_1 s m args below meth c 4 D A cells slots Q (FB Y ad F' ++ [moB Y mo M']) 624 (lvL b (ad 8 2) (mo 0) i) []) : J p l e room_1 s m args below meth c 4 D A cells slots Q (FB Y ad F ++ [moB Y mo M]) 368 (lvL b (ad 8 2) (mo 0) i) [] := by
  obtain ⟨m11, m12, m9, m10, m00, m3, m31⟩ := Wh_mn hw
  obtain ⟨eq, w⟩ := P_keep hw
  refine j_aload_n h.1 (pc := 368) dL_law_368 2 rfl ?_
  refine lw_c7 h (pc := 369) 0 (c_X7_keep l D Y ad F (Gd_bo hw.1)) gL_law_X7_keep rfl (by decide +kernel) rfl ⟨Nat.le_of_ble_eq_true rfl, Nat.le_of_ble_eq_true rfl⟩ rfl (Nat.le_of_ble_eq_true rfl) dL_law_369 hcs ?_
  refine j_aload_n h.1 (pc := 372) dL_law_372 3 rfl ?_
  refine lw_c8 h (pc := 373) 0 (c_X8_keep l D Y mo M) gL_law_X8_keep rfl (by decide +kernel) rfl ⟨Nat.le_of_ble_eq_true rfl, Nat.le_of_ble_eq_true rfl⟩ rfl (Nat.le_of_ble_eq_true rfl) dL_law_373 hcs ?_
  exact j_icmp_eq h.1 (pc := 376) (tgt := 624) dL_law_376 (by decide) (fun _ => kk _ _ (Wh_up w (by omega))) (fun z => absurd eq z)
set_option maxHeartbeats 4000000 in
set_option maxRecDepth 100000 in
theorem lc_restore (h : LC p s m args meth c D Y A b L xs) (hcs : cells ≤ room_1.cells ∧ slots ≤ room_1.slots) (hi : i + 4 ≤ L) (hw : Wh cN F M) (hc : cN + 50 < 2 ^ 29) (kk : ∀ F' M', Wh (cN + 20) F' M' → J p l e room_1 s m args below meth c 4 D A cells slots Q (FB Y ad F' ++ [moB Y mo M']) 624 (lvL b (ad 8 2) (mo 0) i) []) : J p l e room_1 s m args below meth c 4 D A cells slots Q (FB Y ad F ++ [moB Y mo M]) 381 (lvL b (ad 8 2) (mo 0) i) [] := by
  obtain ⟨m11, m12, m9, m10, m00, m3, m31⟩ := Wh_mn hw
  obtain ⟨b1, b2, eq, w⟩ := P_restore hw
  refine j_aload_n h.1 (pc := 381) dL_law_381 2 rfl ?_
  refine lw_c7 h (pc := 382) 0 (c_X7_restore l D Y ad F (Hs_hi hw.2.1) (Gd_bo hw.1) b1 b2) gL_law_X7_restore rfl (by decide +kernel) rfl ⟨Nat.le_of_ble_eq_true rfl, Nat.le_of_ble_eq_true rfl⟩ rfl (Nat.le_of_ble_eq_true rfl) dL_law_382 hcs ?_
  refine j_aload_n h.1 (pc := 385) dL_law_385 3 rfl ?_
  refine lw_c8 h (pc := 386) 0 (c_X8_restore l D Y mo M m00) gL_law_X8_restore rfl (by decide +kernel) rfl ⟨Nat.le_of_ble_eq_true rfl, Nat.le_of_ble_eq_true rfl⟩ rfl (Nat.le_of_ble_eq_true rfl) dL_law_386 hcs ?_
  exact j_icmp_eq h.1 (pc := 389) (tgt := 624) dL_law_389 (by decide) (fun _ => kk _ _ (Wh_up w (by omega))) (fun z => absurd eq z)
end LCS3
