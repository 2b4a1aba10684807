/-! the law's own walk: what a turn is called with -/
section LARGS
variable {p : Program} {l : Launch} {e : Env} {s : State} {m : MethodId} {args : Array Value} {below : List Frame} {meth : Method} {c : Code} {D : va_G} {Y : Nat → ClassId} {A : Nat → Prop} {cells slots : Nat} {Q : State → Prop} {b L : Nat} {xs : Nat → Int32} {ad : Nat → Nat → Nat} {la : Nat → Nat}
set_option maxHeartbeats 4000000 in
set_option maxRecDepth 100000 in
theorem lw_v (cx : Cx p s m args meth c cL_law 21 RL wsL_law D (tyL Y)) (hcs : cells ≤ room_1.cells ∧ slots ≤ room_1.slots) (hX : va_X b L xs s s.heap) (hbA : ¬ A b) (hL : L ≤ 260) {F : Nat → Nat → Nat → Int32} {G : Nat → Nat → Int32} {k a w i : Nat} {x y : Int32} (kk : ∀ v : Nat, 1 ≤ v → v ≤ 20 → J p l e room_1 s m args below meth c 21 D A cells slots Q (FB Y ad F ++ [lwB Y la G]) 384 [(17, .int (nI v)), (16, .int (nI w)), (15, .int (nI a)), (14, .int (nI k)), (13, .int y), (12, .int x), (1, .ref (ad 8 2)), (0, .ref b), (2, .ref (la 0)), (3, .ref (la 1)), (4, .ref (la 2)), (5, .ref (la 3)), (6, .ref (la 4)), (7, .ref (la 5)), (8, .ref (la 6)), (9, .ref (la 7)), (10, .ref (la 8)), (11, .int (nI i))] []) : J p l e room_1 s m args below meth c 21 D A cells slots Q (FB Y ad F ++ [lwB Y la G]) 354 [(16, .int (nI w)), (15, .int (nI a)), (14, .int (nI k)), (13, .int y), (12, .int x), (1, .ref (ad 8 2)), (0, .ref b), (2, .ref (la 0)), (3, .ref (la 1)), (4, .ref (la 2)), (5, .ref (la 3)), (6, .ref (la 4)), (7, .ref (la 5)), (8, .ref (la 6)), (9, .ref (la 7)), (10, .ref (la 8)), (11, .int (nI i))] [] := by
  refine j_iconst cx (pc := 354) (v := (nI 1)) dL_law_354 (by decide) ?_
  refine j_iload cx (pc := 355) dL_law_355 3 rfl ?_
  refine j_bipush cx (pc := 357) (v := (nI 9)) dL_law_357 (by decide) ?_
  refine j_ishr cx (pc := 359) dL_law_359 ?_
  refine j_iload cx (pc := 360) dL_law_360 3 rfl ?_
  refine j_bipush cx (pc := 362) (v := (nI 20)) dL_law_362 (by decide) ?_
  refine j_ishr cx (pc := 364) dL_law_364 ?_
  refine j_iconst cx (pc := 365) (v := (nI 3)) dL_law_365 (by decide) ?_
  refine j_calls cx (pc := 366) 2 (c_L_low l D Y (y >>> ((nI 20) &&& 31)) 3 (by omega) (by omega)) gL_law_L_low rfl (by decide +kernel) rfl ⟨Nat.le_of_ble_eq_true rfl, Nat.le_of_ble_eq_true rfl⟩ rfl (Nat.le_of_ble_eq_true rfl) dL_law_366 hcs ?_
  obtain ⟨z3, hz3⟩ : ∃ z : Nat, z = (CL_low (y >>> ((nI 20) &&& 31)) 3) := ⟨_, rfl⟩
  refine j_top (show (nI (CL_low (y >>> ((nI 20) &&& 31)) 3)) = (nI z3) from (by rw [hz3])) ?_
  have bz3 : z3 < 3 := by rw [hz3]; exact low_lt _ (by decide)
  refine j_ifN_ne cx (pc := 369) (by omega) (tgt := 377) dL_law_369 (by decide) (fun c369_1 => ?_) (fun c369_1 => ?_)
  · skip
    refine j_iconst cx (pc := 377) (v := (nI 5)) dL_law_377 (by decide) ?_
    refine j_calls cx (pc := 378) 2 (c_L_low l D Y (y >>> ((nI 9) &&& 31)) 5 (by omega) (by omega)) gL_law_L_low rfl (by decide +kernel) rfl ⟨Nat.le_of_ble_eq_true rfl, Nat.le_of_ble_eq_true rfl⟩ rfl (Nat.le_of_ble_eq_true rfl) dL_law_378 hcs ?_
    obtain ⟨z4, hz4⟩ : ∃ z : Nat, z = (CL_low (y >>> ((nI 9) &&& 31)) 5) := ⟨_, rfl⟩
    refine j_top (show (nI (CL_low (y >>> ((nI 9) &&& 31)) 5)) = (nI z4) from (by rw [hz4])) ?_
    have bz4 : z4 < 20 := by rw [hz4]; first | exact low_lt _ (by decide) | exact Nat.lt_of_lt_of_le (low_lt _ (by decide)) (by decide)
    refine j_iaddN cx (pc := 381) dL_law_381 ?_
    obtain ⟨v, hv⟩ : ∃ z : Nat, z = (1 + z4) := ⟨_, rfl⟩
    refine j_top (show (nI (1 + z4)) = (nI v) from (by rw [hv])) ?_
    refine j_istore cx (pc := 382) (lv' := [(17, .int (nI v)), (16, .int (nI w)), (15, .int (nI a)), (14, .int (nI k)), (13, .int y), (12, .int x), (1, .ref (ad 8 2)), (0, .ref b), (2, .ref (la 0)), (3, .ref (la 1)), (4, .ref (la 2)), (5, .ref (la 3)), (6, .ref (la 4)), (7, .ref (la 5)), (8, .ref (la 6)), (9, .ref (la 7)), (10, .ref (la 8)), (11, .int (nI i))]) dL_law_382 (by decide) rfl ?_
    refine j_lvm (lv' := [(17, .int (nI v)), (16, .int (nI w)), (15, .int (nI a)), (14, .int (nI k)), (13, .int y), (12, .int x), (1, .ref (ad 8 2)), (0, .ref b), (2, .ref (la 0)), (3, .ref (la 1)), (4, .ref (la 2)), (5, .ref (la 3)), (6, .ref (la 4)), (7, .ref (la 5)), (8, .ref (la 6)), (9, .ref (la 7)), (10, .ref (la 8)), (11, .int (nI i))]) (by intro z hz; simp only [List.mem_cons, List.not_mem_nil, or_false] at hz ⊢; rcases hz with rfl | rfl | rfl | rfl | rfl | rfl | rfl | rfl | rfl | rfl | rfl | rfl | rfl | rfl | rfl | rfl | rfl | rfl <;> simp) ?_
    exact kk v (by omega) (by omega)
  · skip
    refine j_bipush cx (pc := 372) (v := (nI 20)) dL_law_372 (by decide) ?_
    refine j_goto cx (pc := 374) (tgt := 378) dL_law_374 (by decide) ?_
    refine j_calls cx (pc := 378) 2 (c_L_low l D Y (y >>> ((nI 9) &&& 31)) 20 (by omega) (by omega)) gL_law_L_low rfl (by decide +kernel) rfl ⟨Nat.le_of_ble_eq_true rfl, Nat.le_of_ble_eq_true rfl⟩ rfl (Nat.le_of_ble_eq_true rfl) dL_law_378 hcs ?_
    obtain ⟨z4, hz4⟩ : ∃ z : Nat, z = (CL_low (y >>> ((nI 9) &&& 31)) 20) := ⟨_, rfl⟩
    refine j_top (show (nI (CL_low (y >>> ((nI 9) &&& 31)) 20)) = (nI z4) from (by rw [hz4])) ?_
    have bz4 : z4 < 20 := by rw [hz4]; first | exact low_lt _ (by decide) | exact Nat.lt_of_lt_of_le (low_lt _ (by decide)) (by decide)
    refine j_iaddN cx (pc := 381) dL_law_381 ?_
    obtain ⟨v, hv⟩ : ∃ z : Nat, z = (1 + z4) := ⟨_, rfl⟩
    refine j_top (show (nI (1 + z4)) = (nI v) from (by rw [hv])) ?_
    refine j_istore cx (pc := 382) (lv' := [(17, .int (nI v)), (16, .int (nI w)), (15, .int (nI a)), (14, .int (nI k)), (13, .int y), (12, .int x), (1, .ref (ad 8 2)), (0, .ref b), (2, .ref (la 0)), (3, .ref (la 1)), (4, .ref (la 2)), (5, .ref (la 3)), (6, .ref (la 4)), (7, .ref (la 5)), (8, .ref (la 6)), (9, .ref (la 7)), (10, .ref (la 8)), (11, .int (nI i))]) dL_law_382 (by decide) rfl ?_
    refine j_lvm (lv' := [(17, .int (nI v)), (16, .int (nI w)), (15, .int (nI a)), (14, .int (nI k)), (13, .int y), (12, .int x), (1, .ref (ad 8 2)), (0, .ref b), (2, .ref (la 0)), (3, .ref (la 1)), (4, .ref (la 2)), (5, .ref (la 3)), (6, .ref (la 4)), (7, .ref (la 5)), (8, .ref (la 6)), (9, .ref (la 7)), (10, .ref (la 8)), (11, .int (nI i))]) (by intro z hz; simp only [List.mem_cons, List.not_mem_nil, or_false] at hz ⊢; rcases hz with rfl | rfl | rfl | rfl | rfl | rfl | rfl | rfl | rfl | rfl | rfl | rfl | rfl | rfl | rfl | rfl | rfl | rfl <;> simp) ?_
    exact kk v (by omega) (by omega)
set_option maxHeartbeats 4000000 in
set_option maxRecDepth 100000 in
theorem lw_w (cx : Cx p s m args meth c cL_law 21 RL wsL_law D (tyL Y)) (hcs : cells ≤ room_1.cells ∧ slots ≤ room_1.slots) (hX : va_X b L xs s s.heap) (hbA : ¬ A b) (hL : L ≤ 260) {F : Nat → Nat → Nat → Int32} {G : Nat → Nat → Int32} {k a i : Nat} {x y : Int32} (hk : k < 6) (ha31 : a < 2 ^ 31) (kk : ∀ w : Nat, (k = 0 → w < 16) → (k = 1 → 1 ≤ w ∧ w ≤ 200) → (k = 2 → w < 3) → (k = 3 → w ≤ 20 ∧ (a = 2 → w ≤ 1)) → J p l e room_1 s m args below meth c 21 D A cells slots Q (FB Y ad F ++ [lwB Y la G]) 354 [(16, .int (nI w)), (15, .int (nI a)), (14, .int (nI k)), (13, .int y), (12, .int x), (1, .ref (ad 8 2)), (0, .ref b), (2, .ref (la 0)), (3, .ref (la 1)), (4, .ref (la 2)), (5, .ref (la 3)), (6, .ref (la 4)), (7, .ref (la 5)), (8, .ref (la 6)), (9, .ref (la 7)), (10, .ref (la 8)), (11, .int (nI i))] []) : J p l e room_1 s m args below meth c 21 D A cells slots Q (FB Y ad F ++ [lwB Y la G]) 253 [(15, .int (nI a)), (14, .int (nI k)), (13, .int y), (12, .int x), (1, .ref (ad 8 2)), (0, .ref b), (2, .ref (la 0)), (3, .ref (la 1)), (4, .ref (la 2)), (5, .ref (la 3)), (6, .ref (la 4)), (7, .ref (la 5)), (8, .ref (la 6)), (9, .ref (la 7)), (10, .ref (la 8)), (11, .int (nI i))] [] := by
  have K352 : ∀ w : Nat, (k = 0 → w < 16) → (k = 1 → 1 ≤ w ∧ w ≤ 200) → (k = 2 → w < 3) → (k = 3 → w ≤ 20 ∧ (a = 2 → w ≤ 1)) → J p l e room_1 s m args below meth c 21 D A cells slots Q (FB Y ad F ++ [lwB Y la G]) 352 [(15, .int (nI a)), (14, .int (nI k)), (13, .int y), (12, .int x), (1, .ref (ad 8 2)), (0, .ref b), (2, .ref (la 0)), (3, .ref (la 1)), (4, .ref (la 2)), (5, .ref (la 3)), (6, .ref (la 4)), (7, .ref (la 5)), (8, .ref (la 6)), (9, .ref (la 7)), (10, .ref (la 8)), (11, .int (nI i))] [.int (nI w)] := by
    intro w h0 h1 h2 h3
    refine j_istore cx (pc := 352) (lv' := [(16, .int (nI w)), (15, .int (nI a)), (14, .int (nI k)), (13, .int y), (12, .int x), (1, .ref (ad 8 2)), (0, .ref b), (2, .ref (la 0)), (3, .ref (la 1)), (4, .ref (la 2)), (5, .ref (la 3)), (6, .ref (la 4)), (7, .ref (la 5)), (8, .ref (la 6)), (9, .ref (la 7)), (10, .ref (la 8)), (11, .int (nI i))]) dL_law_352 (by decide) rfl ?_
    exact kk w h0 h1 h2 h3
  refine j_iload cx (pc := 253) dL_law_253 1 rfl ?_
  refine j_ifN_ne cx (pc := 255) (by omega) (tgt := 270) dL_law_255 (by decide) (fun c255_1 => ?_) (fun c255_1 => ?_)
  · skip
    refine j_iload cx (pc := 270) dL_law_270 1 rfl ?_
    refine j_iconst cx (pc := 272) (v := (nI 1)) dL_law_272 (by decide) ?_
    refine j_icmpN_ne cx (pc := 273) (by omega) (by decide) (tgt := 309) dL_law_273 (by decide) (fun c273_2 => ?_) (fun c273_2 => ?_)
    · skip
      refine j_iload cx (pc := 309) dL_law_309 1 rfl ?_
      refine j_iconst cx (pc := 311) (v := (nI 2)) dL_law_311 (by decide) ?_
      refine j_icmpN_ne cx (pc := 312) (by omega) (by decide) (tgt := 326) dL_law_312 (by decide) (fun c312_3 => ?_) (fun c312_3 => ?_)
      · skip
        refine j_iload cx (pc := 326) dL_law_326 0 rfl ?_
        refine j_iconst cx (pc := 328) (v := (nI 2)) dL_law_328 (by decide) ?_
        refine j_icmpN_ne cx (pc := 329) (by omega) (by decide) (tgt := 343) dL_law_329 (by decide) (fun c329_4 => ?_) (fun c329_4 => ?_)
        · skip
          refine j_iload cx (pc := 343) dL_law_343 2 rfl ?_
          refine j_iconst cx (pc := 345) (v := (nI 3)) dL_law_345 (by decide) ?_
          refine j_ishr cx (pc := 346) dL_law_346 ?_
          refine j_bipush cx (pc := 347) (v := (nI 21)) dL_law_347 (by decide) ?_
          refine j_calls cx (pc := 349) 2 (c_L_low l D Y (y >>> ((nI 3) &&& 31)) 21 (by omega) (by omega)) gL_law_L_low rfl (by decide +kernel) rfl ⟨Nat.le_of_ble_eq_true rfl, Nat.le_of_ble_eq_true rfl⟩ rfl (Nat.le_of_ble_eq_true rfl) dL_law_349 hcs ?_
          obtain ⟨w, hw⟩ : ∃ z : Nat, z = (CL_low (y >>> ((nI 3) &&& 31)) 21) := ⟨_, rfl⟩
          refine j_top (show (nI (CL_low (y >>> ((nI 3) &&& 31)) 21)) = (nI w) from (by rw [hw])) ?_
          have bw : w < 21 := by rw [hw]; first | exact low_lt _ (by decide) | exact Nat.lt_of_lt_of_le (low_lt _ (by decide)) (by decide)
          exact K352 w (by omega) (by omega) (by omega) (by omega)
        · skip
          refine j_iload cx (pc := 332) dL_law_332 2 rfl ?_
          refine j_iconst cx (pc := 334) (v := (nI 3)) dL_law_334 (by decide) ?_
          refine j_ishr cx (pc := 335) dL_law_335 ?_
          refine j_iconst cx (pc := 336) (v := (nI 2)) dL_law_336 (by decide) ?_
          refine j_calls cx (pc := 337) 2 (c_L_low l D Y (y >>> ((nI 3) &&& 31)) 2 (by omega) (by omega)) gL_law_L_low rfl (by decide +kernel) rfl ⟨Nat.le_of_ble_eq_true rfl, Nat.le_of_ble_eq_true rfl⟩ rfl (Nat.le_of_ble_eq_true rfl) dL_law_337 hcs ?_
          obtain ⟨w, hw⟩ : ∃ z : Nat, z = (CL_low (y >>> ((nI 3) &&& 31)) 2) := ⟨_, rfl⟩
          refine j_top (show (nI (CL_low (y >>> ((nI 3) &&& 31)) 2)) = (nI w) from (by rw [hw])) ?_
          have bw : w < 2 := by rw [hw]; first | exact low_lt _ (by decide) | exact Nat.lt_of_lt_of_le (low_lt _ (by decide)) (by decide)
          refine j_goto cx (pc := 340) (tgt := 352) dL_law_340 (by decide) ?_
          exact K352 w (by omega) (by omega) (by omega) (by omega)
      · skip
        refine j_iload cx (pc := 315) dL_law_315 2 rfl ?_
        refine j_iconst cx (pc := 317) (v := (nI 3)) dL_law_317 (by decide) ?_
        refine j_ishr cx (pc := 318) dL_law_318 ?_
        refine j_iconst cx (pc := 319) (v := (nI 3)) dL_law_319 (by decide) ?_
        refine j_calls cx (pc := 320) 2 (c_L_low l D Y (y >>> ((nI 3) &&& 31)) 3 (by omega) (by omega)) gL_law_L_low rfl (by decide +kernel) rfl ⟨Nat.le_of_ble_eq_true rfl, Nat.le_of_ble_eq_true rfl⟩ rfl (Nat.le_of_ble_eq_true rfl) dL_law_320 hcs ?_
        obtain ⟨w, hw⟩ : ∃ z : Nat, z = (CL_low (y >>> ((nI 3) &&& 31)) 3) := ⟨_, rfl⟩
        refine j_top (show (nI (CL_low (y >>> ((nI 3) &&& 31)) 3)) = (nI w) from (by rw [hw])) ?_
        have bw : w < 3 := by rw [hw]; first | exact low_lt _ (by decide) | exact Nat.lt_of_lt_of_le (low_lt _ (by decide)) (by decide)
        refine j_goto cx (pc := 323) (tgt := 352) dL_law_323 (by decide) ?_
        exact K352 w (by omega) (by omega) (by omega) (by omega)
    · skip
      refine j_iconst cx (pc := 276) (v := (nI 1)) dL_law_276 (by decide) ?_
      refine j_iload cx (pc := 277) dL_law_277 2 rfl ?_
      refine j_iconst cx (pc := 279) (v := (nI 3)) dL_law_279 (by decide) ?_
      refine j_ishr cx (pc := 280) dL_law_280 ?_
      refine j_iload cx (pc := 281) dL_law_281 2 rfl ?_
      refine j_bipush cx (pc := 283) (v := (nI 20)) dL_law_283 (by decide) ?_
      refine j_ishr cx (pc := 285) dL_law_285 ?_
      refine j_bipush cx (pc := 286) (v := (nI 6)) dL_law_286 (by decide) ?_
      refine j_calls cx (pc := 288) 2 (c_L_low l D Y (y >>> ((nI 20) &&& 31)) 6 (by omega) (by omega)) gL_law_L_low rfl (by decide +kernel) rfl ⟨Nat.le_of_ble_eq_true rfl, Nat.le_of_ble_eq_true rfl⟩ rfl (Nat.le_of_ble_eq_true rfl) dL_law_288 hcs ?_
      obtain ⟨z6, hz6⟩ : ∃ z : Nat, z = (CL_low (y >>> ((nI 20) &&& 31)) 6) := ⟨_, rfl⟩
      refine j_top (show (nI (CL_low (y >>> ((nI 20) &&& 31)) 6)) = (nI z6) from (by rw [hz6])) ?_
      have bz6 : z6 < 6 := by rw [hz6]; exact low_lt _ (by decide)
      refine j_ifN_ne cx (pc := 291) (by omega) (tgt := 300) dL_law_291 (by decide) (fun c291_5 => ?_) (fun c291_5 => ?_)
      · skip
        refine j_bipush cx (pc := 300) (v := (nI 12)) dL_law_300 (by decide) ?_
        refine j_calls cx (pc := 302) 2 (c_L_low l D Y (y >>> ((nI 3) &&& 31)) 12 (by omega) (by omega)) gL_law_L_low rfl (by decide +kernel) rfl ⟨Nat.le_of_ble_eq_true rfl, Nat.le_of_ble_eq_true rfl⟩ rfl (Nat.le_of_ble_eq_true rfl) dL_law_302 hcs ?_
        obtain ⟨w, hw⟩ : ∃ z : Nat, z = (CL_low (y >>> ((nI 3) &&& 31)) 12) := ⟨_, rfl⟩
        refine j_top (show (nI (CL_low (y >>> ((nI 3) &&& 31)) 12)) = (nI w) from (by rw [hw])) ?_
        have bw : w < 200 := by rw [hw]; first | exact low_lt _ (by decide) | exact Nat.lt_of_lt_of_le (low_lt _ (by decide)) (by decide)
        refine j_iaddN cx (pc := 305) dL_law_305 ?_
        refine j_goto cx (pc := 306) (tgt := 352) dL_law_306 (by decide) ?_
        exact K352 (1 + w) (by omega) (by omega) (by omega) (by omega)
      · skip
        refine j_sipush cx (pc := 294) (v := (nI 200)) dL_law_294 (by decide) ?_
        refine j_goto cx (pc := 297) (tgt := 302) dL_law_297 (by decide) ?_
        refine j_calls cx (pc := 302) 2 (c_L_low l D Y (y >>> ((nI 3) &&& 31)) 200 (by omega) (by omega)) gL_law_L_low rfl (by decide +kernel) rfl ⟨Nat.le_of_ble_eq_true rfl, Nat.le_of_ble_eq_true rfl⟩ rfl (Nat.le_of_ble_eq_true rfl) dL_law_302 hcs ?_
        obtain ⟨w, hw⟩ : ∃ z : Nat, z = (CL_low (y >>> ((nI 3) &&& 31)) 200) := ⟨_, rfl⟩
        refine j_top (show (nI (CL_low (y >>> ((nI 3) &&& 31)) 200)) = (nI w) from (by rw [hw])) ?_
        have bw : w < 200 := by rw [hw]; first | exact low_lt _ (by decide) | exact Nat.lt_of_lt_of_le (low_lt _ (by decide)) (by decide)
        refine j_iaddN cx (pc := 305) dL_law_305 ?_
        refine j_goto cx (pc := 306) (tgt := 352) dL_law_306 (by decide) ?_
        exact K352 (1 + w) (by omega) (by omega) (by omega) (by omega)
  · skip
    refine j_iload cx (pc := 258) dL_law_258 2 rfl ?_
    refine j_iconst cx (pc := 260) (v := (nI 3)) dL_law_260 (by decide) ?_
    refine j_ishr cx (pc := 261) dL_law_261 ?_
    refine j_bipush cx (pc := 262) (v := (nI 16)) dL_law_262 (by decide) ?_
    refine j_calls cx (pc := 264) 2 (c_L_low l D Y (y >>> ((nI 3) &&& 31)) 16 (by omega) (by omega)) gL_law_L_low rfl (by decide +kernel) rfl ⟨Nat.le_of_ble_eq_true rfl, Nat.le_of_ble_eq_true rfl⟩ rfl (Nat.le_of_ble_eq_true rfl) dL_law_264 hcs ?_
    obtain ⟨w, hw⟩ : ∃ z : Nat, z = (CL_low (y >>> ((nI 3) &&& 31)) 16) := ⟨_, rfl⟩
    refine j_top (show (nI (CL_low (y >>> ((nI 3) &&& 31)) 16)) = (nI w) from (by rw [hw])) ?_
    have bw : w < 16 := by rw [hw]; first | exact low_lt _ (by decide) | exact Nat.lt_of_lt_of_le (low_lt _ (by decide)) (by decide)
    refine j_goto cx (pc := 267) (tgt := 352) dL_law_267 (by decide) ?_
    exact K352 w (by omega) (by omega) (by omega) (by omega)
set_option maxHeartbeats 4000000 in
set_option maxRecDepth 100000 in
theorem lw_a (cx : Cx p s m args meth c cL_law 21 RL wsL_law D (tyL Y)) (hcs : cells ≤ room_1.cells ∧ slots ≤ room_1.slots) (hX : va_X b L xs s s.heap) (hbA : ¬ A b) (hL : L ≤ 260) {F : Nat → Nat → Nat → Int32} {G : Nat → Nat → Int32} {k i : Nat} {x y : Int32} (hk : k < 6) (sg0 : vp_in (G 0 3) 7) (kk : ∀ a : Nat, a < 2 ^ 31 → (k = 0 → a < 2) → (k = 2 → a ≤ tN (G 0 3)) → (k = 3 → a < 3) → (k = 4 → 1 ≤ a ∧ a ≤ 6) → J p l e room_1 s m args below meth c 21 D A cells slots Q (FB Y ad F ++ [lwB Y la G]) 253 [(15, .int (nI a)), (14, .int (nI k)), (13, .int y), (12, .int x), (1, .ref (ad 8 2)), (0, .ref b), (2, .ref (la 0)), (3, .ref (la 1)), (4, .ref (la 2)), (5, .ref (la 3)), (6, .ref (la 4)), (7, .ref (la 5)), (8, .ref (la 6)), (9, .ref (la 7)), (10, .ref (la 8)), (11, .int (nI i))] []) : J p l e room_1 s m args below meth c 21 D A cells slots Q (FB Y ad F ++ [lwB Y la G]) 194 [(14, .int (nI k)), (13, .int y), (12, .int x), (1, .ref (ad 8 2)), (0, .ref b), (2, .ref (la 0)), (3, .ref (la 1)), (4, .ref (la 2)), (5, .ref (la 3)), (6, .ref (la 4)), (7, .ref (la 5)), (8, .ref (la 6)), (9, .ref (la 7)), (10, .ref (la 8)), (11, .int (nI i))] [] := by
  have hsb := inL sg0
  have K251 : ∀ a : Nat, a < 2 ^ 31 → (k = 0 → a < 2) → (k = 2 → a ≤ tN (G 0 3)) → (k = 3 → a < 3) → (k = 4 → 1 ≤ a ∧ a ≤ 6) → J p l e room_1 s m args below meth c 21 D A cells slots Q (FB Y ad F ++ [lwB Y la G]) 251 [(14, .int (nI k)), (13, .int y), (12, .int x), (1, .ref (ad 8 2)), (0, .ref b), (2, .ref (la 0)), (3, .ref (la 1)), (4, .ref (la 2)), (5, .ref (la 3)), (6, .ref (la 4)), (7, .ref (la 5)), (8, .ref (la 6)), (9, .ref (la 7)), (10, .ref (la 8)), (11, .int (nI i))] [.int (nI a)] := by
    intro a h31 h0 h2 h3 h4
    refine j_istore cx (pc := 251) (lv' := [(15, .int (nI a)), (14, .int (nI k)), (13, .int y), (12, .int x), (1, .ref (ad 8 2)), (0, .ref b), (2, .ref (la 0)), (3, .ref (la 1)), (4, .ref (la 2)), (5, .ref (la 3)), (6, .ref (la 4)), (7, .ref (la 5)), (8, .ref (la 6)), (9, .ref (la 7)), (10, .ref (la 8)), (11, .int (nI i))]) dL_law_251 (by decide) rfl ?_
    exact kk a h31 h0 h2 h3 h4
  refine j_iload cx (pc := 194) dL_law_194 0 rfl ?_
  refine j_ifN_ne cx (pc := 196) (by omega) (tgt := 208) dL_law_196 (by decide) (fun c196_1 => ?_) (fun c196_1 => ?_)
  · skip
    refine j_iload cx (pc := 208) dL_law_208 0 rfl ?_
    refine j_iconst cx (pc := 210) (v := (nI 2)) dL_law_210 (by decide) ?_
    refine j_icmpN_ne cx (pc := 211) (by omega) (by decide) (tgt := 227) dL_law_211 (by decide) (fun c211_2 => ?_) (fun c211_2 => ?_)
    · skip
      refine j_iload cx (pc := 227) dL_law_227 0 rfl ?_
      refine j_iconst cx (pc := 229) (v := (nI 3)) dL_law_229 (by decide) ?_
      refine j_icmpN_ne cx (pc := 230) (by omega) (by decide) (tgt := 242) dL_law_230 (by decide) (fun c230_3 => ?_) (fun c230_3 => ?_)
      · skip
        refine j_iconst cx (pc := 242) (v := (nI 1)) dL_law_242 (by decide) ?_
        refine j_iload cx (pc := 243) dL_law_243 1 rfl ?_
        refine j_bipush cx (pc := 245) (v := (nI 6)) dL_law_245 (by decide) ?_
        refine j_calls cx (pc := 247) 2 (c_L_low l D Y y 6 (by omega) (by omega)) gL_law_L_low rfl (by decide +kernel) rfl ⟨Nat.le_of_ble_eq_true rfl, Nat.le_of_ble_eq_true rfl⟩ rfl (Nat.le_of_ble_eq_true rfl) dL_law_247 hcs ?_
        obtain ⟨a, ha⟩ : ∃ z : Nat, z = (CL_low y 6) := ⟨_, rfl⟩
        refine j_top (show (nI (CL_low y 6)) = (nI a) from (by rw [ha])) ?_
        have ba : a < 6 := by rw [ha]; exact low_lt _ (by omega)
        refine j_iaddN cx (pc := 250) dL_law_250 ?_
        exact K251 (1 + a) (by omega) (by omega) (by omega) (by omega) (by omega)
      · skip
        refine j_iload cx (pc := 233) dL_law_233 1 rfl ?_
        refine j_iconst cx (pc := 235) (v := (nI 3)) dL_law_235 (by decide) ?_
        refine j_calls cx (pc := 236) 2 (c_L_low l D Y y 3 (by omega) (by omega)) gL_law_L_low rfl (by decide +kernel) rfl ⟨Nat.le_of_ble_eq_true rfl, Nat.le_of_ble_eq_true rfl⟩ rfl (Nat.le_of_ble_eq_true rfl) dL_law_236 hcs ?_
        obtain ⟨a, ha⟩ : ∃ z : Nat, z = (CL_low y 3) := ⟨_, rfl⟩
        refine j_top (show (nI (CL_low y 3)) = (nI a) from (by rw [ha])) ?_
        have ba : a < 3 := by rw [ha]; exact low_lt _ (by omega)
        refine j_goto cx (pc := 239) (tgt := 251) dL_law_239 (by decide) ?_
        exact K251 a (by omega) (by omega) (by omega) (by omega) (by omega)
    · skip
      refine j_iload cx (pc := 214) dL_law_214 1 rfl ?_
      refine j_aload_n cx (pc := 216) dL_law_216 5 rfl ?_
      refine j_iconst cx (pc := 217) (v := (nI 3)) dL_law_217 (by decide) ?_
      refine j_iald cx (pc := 218) 87 0 0 (FBx_87 Y ad _ _) rfl rfl (by decide) (by decide) dL_law_218 ?_
      refine j_top (show (G 0 3) = (nI (tN (G 0 3))) from inN sg0) ?_
      refine j_iconst cx (pc := 219) (v := (nI 1)) dL_law_219 (by decide) ?_
      refine j_iaddN cx (pc := 220) dL_law_220 ?_
      refine j_calls cx (pc := 221) 2 (c_L_low l D Y y ((tN (G 0 3)) + 1) (by omega) (by omega)) gL_law_L_low rfl (by decide +kernel) rfl ⟨Nat.le_of_ble_eq_true rfl, Nat.le_of_ble_eq_true rfl⟩ rfl (Nat.le_of_ble_eq_true rfl) dL_law_221 hcs ?_
      obtain ⟨a, ha⟩ : ∃ z : Nat, z = (CL_low y ((tN (G 0 3)) + 1)) := ⟨_, rfl⟩
      refine j_top (show (nI (CL_low y ((tN (G 0 3)) + 1))) = (nI a) from (by rw [ha])) ?_
      have ba : a < tN (G 0 3) + 1 := by rw [ha]; exact low_lt _ (by omega)
      refine j_goto cx (pc := 224) (tgt := 251) dL_law_224 (by decide) ?_
      exact K251 a (by omega) (by omega) (by omega) (by omega) (by omega)
  · skip
    refine j_iload cx (pc := 199) dL_law_199 1 rfl ?_
    refine j_iconst cx (pc := 201) (v := (nI 2)) dL_law_201 (by decide) ?_
    refine j_calls cx (pc := 202) 2 (c_L_low l D Y y 2 (by omega) (by omega)) gL_law_L_low rfl (by decide +kernel) rfl ⟨Nat.le_of_ble_eq_true rfl, Nat.le_of_ble_eq_true rfl⟩ rfl (Nat.le_of_ble_eq_true rfl) dL_law_202 hcs ?_
    obtain ⟨a, ha⟩ : ∃ z : Nat, z = (CL_low y 2) := ⟨_, rfl⟩
    refine j_top (show (nI (CL_low y 2)) = (nI a) from (by rw [ha])) ?_
    have ba : a < 2 := by rw [ha]; exact low_lt _ (by omega)
    refine j_goto cx (pc := 205) (tgt := 251) dL_law_205 (by decide) ?_
    exact K251 a (by omega) (by omega) (by omega) (by omega) (by omega)
set_option maxHeartbeats 4000000 in
set_option maxRecDepth 100000 in
theorem lw_k (cx : Cx p s m args meth c cL_law 21 RL wsL_law D (tyL Y)) (hcs : cells ≤ room_1.cells ∧ slots ≤ room_1.slots) (hX : va_X b L xs s s.heap) (hbA : ¬ A b) (hL : L ≤ 260) {F : Nat → Nat → Nat → Int32} {G : Nat → Nat → Int32} {i : Nat} (hi : i < 44) (kk : ∀ (x y : Int32) (k : Nat), k < 6 → J p l e room_1 s m args below meth c 21 D A cells slots Q (FB Y ad F ++ [lwB Y la G]) 194 [(14, .int (nI k)), (13, .int y), (12, .int x), (1, .ref (ad 8 2)), (0, .ref b), (2, .ref (la 0)), (3, .ref (la 1)), (4, .ref (la 2)), (5, .ref (la 3)), (6, .ref (la 4)), (7, .ref (la 5)), (8, .ref (la 6)), (9, .ref (la 7)), (10, .ref (la 8)), (11, .int (nI i))] []) : J p l e room_1 s m args below meth c 21 D A cells slots Q (FB Y ad F ++ [lwB Y la G]) 83 [(1, .ref (ad 8 2)), (0, .ref b), (2, .ref (la 0)), (3, .ref (la 1)), (4, .ref (la 2)), (5, .ref (la 3)), (6, .ref (la 4)), (7, .ref (la 5)), (8, .ref (la 6)), (9, .ref (la 7)), (10, .ref (la 8)), (11, .int (nI i))] [] := by
  refine j_aload_n cx (pc := 83) dL_law_83 1 rfl ?_
  refine j_iconst cx (pc := 84) (v := (nI 2)) dL_law_84 (by decide) ?_
  refine j_iload cx (pc := 85) dL_law_85 11 rfl ?_
  refine j_imulN cx (pc := 87) dL_law_87 ?_
  refine j_csx cx (pc := 88) 2 hX hbA (c_L_cell l D Y b L xs (2 * i) (by omega) (by omega)) gL_law_L_cell rfl (by decide +kernel) rfl ⟨Nat.le_of_ble_eq_true rfl, Nat.le_of_ble_eq_true rfl⟩ rfl (Nat.le_of_ble_eq_true rfl) dL_law_88 hcs ?_
  refine j_nm (fun x _ => ?_)
  refine j_istore cx (pc := 91) (lv' := [(12, .int x), (1, .ref (ad 8 2)), (0, .ref b), (2, .ref (la 0)), (3, .ref (la 1)), (4, .ref (la 2)), (5, .ref (la 3)), (6, .ref (la 4)), (7, .ref (la 5)), (8, .ref (la 6)), (9, .ref (la 7)), (10, .ref (la 8)), (11, .int (nI i))]) dL_law_91 (by decide) rfl ?_
  refine j_aload_n cx (pc := 93) dL_law_93 2 rfl ?_
  refine j_iconst cx (pc := 94) (v := (nI 2)) dL_law_94 (by decide) ?_
  refine j_iload cx (pc := 95) dL_law_95 12 rfl ?_
  refine j_imulN cx (pc := 97) dL_law_97 ?_
  refine j_iconst cx (pc := 98) (v := (nI 1)) dL_law_98 (by decide) ?_
  refine j_iaddN cx (pc := 99) dL_law_99 ?_
  refine j_csx cx (pc := 100) 2 hX hbA (c_L_cell l D Y b L xs ((2 * i) + 1) (by omega) (by omega)) gL_law_L_cell rfl (by decide +kernel) rfl ⟨Nat.le_of_ble_eq_true rfl, Nat.le_of_ble_eq_true rfl⟩ rfl (Nat.le_of_ble_eq_true rfl) dL_law_100 hcs ?_
  refine j_nm (fun y _ => ?_)
  refine j_istore cx (pc := 103) (lv' := [(13, .int y), (12, .int x), (1, .ref (ad 8 2)), (0, .ref b), (2, .ref (la 0)), (3, .ref (la 1)), (4, .ref (la 2)), (5, .ref (la 3)), (6, .ref (la 4)), (7, .ref (la 5)), (8, .ref (la 6)), (9, .ref (la 7)), (10, .ref (la 8)), (11, .int (nI i))]) dL_law_103 (by decide) rfl ?_
  refine j_iload cx (pc := 105) dL_law_105 1 rfl ?_
  refine j_bipush cx (pc := 107) (v := (nI 20)) dL_law_107 (by decide) ?_
  refine j_calls cx (pc := 109) 2 (c_L_low l D Y x 20 (by omega) (by omega)) gL_law_L_low rfl (by decide +kernel) rfl ⟨Nat.le_of_ble_eq_true rfl, Nat.le_of_ble_eq_true rfl⟩ rfl (Nat.le_of_ble_eq_true rfl) dL_law_109 hcs ?_
  obtain ⟨z, hz⟩ : ∃ z : Nat, z = (CL_low x 20) := ⟨_, rfl⟩
  refine j_top (show (nI (CL_low x 20)) = (nI z) from (by rw [hz])) ?_
  have bz : z < 20 := by rw [hz]; exact low_lt _ (by decide)
  refine j_istore cx (pc := 112) (lv' := [(14, .int (nI z)), (13, .int y), (12, .int x), (1, .ref (ad 8 2)), (0, .ref b), (2, .ref (la 0)), (3, .ref (la 1)), (4, .ref (la 2)), (5, .ref (la 3)), (6, .ref (la 4)), (7, .ref (la 5)), (8, .ref (la 6)), (9, .ref (la 7)), (10, .ref (la 8)), (11, .int (nI i))]) dL_law_112 (by decide) rfl ?_
  refine j_lvm (lv' := [(14, .int (nI z)), (13, .int y), (12, .int x), (1, .ref (ad 8 2)), (0, .ref b), (2, .ref (la 0)), (3, .ref (la 1)), (4, .ref (la 2)), (5, .ref (la 3)), (6, .ref (la 4)), (7, .ref (la 5)), (8, .ref (la 6)), (9, .ref (la 7)), (10, .ref (la 8)), (11, .int (nI i))]) (by intro z hz; simp only [List.mem_cons, List.not_mem_nil, or_false] at hz ⊢; rcases hz with rfl | rfl | rfl | rfl | rfl | rfl | rfl | rfl | rfl | rfl | rfl | rfl | rfl | rfl | rfl <;> simp) ?_
  have K192 : ∀ k : Nat, k < 6 → J p l e room_1 s m args below meth c 21 D A cells slots Q (FB Y ad F ++ [lwB Y la G]) 192 [(14, .int (nI z)), (13, .int y), (12, .int x), (1, .ref (ad 8 2)), (0, .ref b), (2, .ref (la 0)), (3, .ref (la 1)), (4, .ref (la 2)), (5, .ref (la 3)), (6, .ref (la 4)), (7, .ref (la 5)), (8, .ref (la 6)), (9, .ref (la 7)), (10, .ref (la 8)), (11, .int (nI i))] [.int (nI k)] := by
    intro k hk
    refine j_istore cx (pc := 192) (lv' := [(14, .int (nI k)), (13, .int y), (12, .int x), (1, .ref (ad 8 2)), (0, .ref b), (2, .ref (la 0)), (3, .ref (la 1)), (4, .ref (la 2)), (5, .ref (la 3)), (6, .ref (la 4)), (7, .ref (la 5)), (8, .ref (la 6)), (9, .ref (la 7)), (10, .ref (la 8)), (11, .int (nI i))]) dL_law_192 (by decide) rfl ?_
    exact kk x y k hk
  refine j_iload cx (pc := 114) dL_law_114 0 rfl ?_
  refine j_bipush cx (pc := 116) (v := (nI 8)) dL_law_116 (by decide) ?_
  refine j_icmpN_ge cx (pc := 118) (by omega) (by decide) (tgt := 125) dL_law_118 (by decide) (fun c118_1 => ?_) (fun c118_1 => ?_)
  · skip
    refine j_iload cx (pc := 125) dL_law_125 0 rfl ?_
    refine j_bipush cx (pc := 127) (v := (nI 13)) dL_law_127 (by decide) ?_
    refine j_icmpN_ge cx (pc := 129) (by omega) (by decide) (tgt := 136) dL_law_129 (by decide) (fun c129_2 => ?_) (fun c129_2 => ?_)
    · skip
      refine j_iload cx (pc := 136) dL_law_136 0 rfl ?_
      refine j_bipush cx (pc := 138) (v := (nI 17)) dL_law_138 (by decide) ?_
      refine j_icmpN_ge cx (pc := 140) (by omega) (by decide) (tgt := 147) dL_law_140 (by decide) (fun c140_3 => ?_) (fun c140_3 => ?_)
      · skip
        refine j_iload cx (pc := 147) dL_law_147 0 rfl ?_
        refine j_bipush cx (pc := 149) (v := (nI 17)) dL_law_149 (by decide) ?_
        refine j_icmpN_ne cx (pc := 151) (by omega) (by decide) (tgt := 158) dL_law_151 (by decide) (fun c151_4 => ?_) (fun c151_4 => ?_)
        · skip
          refine j_iload cx (pc := 158) dL_law_158 0 rfl ?_
          refine j_bipush cx (pc := 160) (v := (nI 18)) dL_law_160 (by decide) ?_
          refine j_icmpN_ne cx (pc := 162) (by omega) (by decide) (tgt := 180) dL_law_162 (by decide) (fun c162_5 => ?_) (fun c162_5 => ?_)
          · skip
            refine j_iload cx (pc := 180) dL_law_180 14 rfl ?_
            refine j_iconst cx (pc := 182) (v := (nI 3)) dL_law_182 (by decide) ?_
            refine j_iremN cx (pc := 183) (by omega) (by omega) (by omega) dL_law_183 ?_
            refine j_ifN_ne cx (pc := 184) (by omega) (tgt := 191) dL_law_184 (by decide) (fun c184_6 => ?_) (fun c184_6 => ?_)
            · skip
              refine j_iconst cx (pc := 191) (v := (nI 1)) dL_law_191 (by decide) ?_
              exact K192 1 (by decide)
            · skip
              refine j_iconst cx (pc := 187) (v := (nI 5)) dL_law_187 (by decide) ?_
              refine j_goto cx (pc := 188) (tgt := 192) dL_law_188 (by decide) ?_
              exact K192 5 (by decide)
          · skip
            refine j_iload cx (pc := 165) dL_law_165 14 rfl ?_
            refine j_iconst cx (pc := 167) (v := (nI 4)) dL_law_167 (by decide) ?_
            refine j_iremN cx (pc := 168) (by omega) (by omega) (by omega) dL_law_168 ?_
            refine j_ifN_ne cx (pc := 169) (by omega) (tgt := 176) dL_law_169 (by decide) (fun c169_7 => ?_) (fun c169_7 => ?_)
            · skip
              refine j_iconst cx (pc := 176) (v := (nI 0)) dL_law_176 (by decide) ?_
              refine j_goto cx (pc := 177) (tgt := 192) dL_law_177 (by decide) ?_
              exact K192 0 (by decide)
            · skip
              refine j_iconst cx (pc := 172) (v := (nI 4)) dL_law_172 (by decide) ?_
              refine j_goto cx (pc := 173) (tgt := 192) dL_law_173 (by decide) ?_
              exact K192 4 (by decide)
        · skip
          refine j_iconst cx (pc := 154) (v := (nI 3)) dL_law_154 (by decide) ?_
          refine j_goto cx (pc := 155) (tgt := 192) dL_law_155 (by decide) ?_
          exact K192 3 (by decide)
      · skip
        refine j_iconst cx (pc := 143) (v := (nI 2)) dL_law_143 (by decide) ?_
        refine j_goto cx (pc := 144) (tgt := 192) dL_law_144 (by decide) ?_
        exact K192 2 (by decide)
    · skip
      refine j_iconst cx (pc := 132) (v := (nI 1)) dL_law_132 (by decide) ?_
      refine j_goto cx (pc := 133) (tgt := 192) dL_law_133 (by decide) ?_
      exact K192 1 (by decide)
  · skip
    refine j_iconst cx (pc := 121) (v := (nI 0)) dL_law_121 (by decide) ?_
    refine j_goto cx (pc := 122) (tgt := 192) dL_law_122 (by decide) ?_
    exact K192 0 (by decide)
/-- a whole turn -/
theorem lw_turn (cx : Cx p s m args meth c cL_law 21 RL wsL_law D (tyL Y)) (hcs : cells ≤ room_1.cells ∧ slots ≤ room_1.slots) (hX : va_X b L xs s s.heap) (hbA : ¬ A b) (hL : L ≤ 260) {cN bN i : Nat} {F : Nat → Nat → Nat → Int32} {M G : Nat → Nat → Int32} (ts : TS cN bN F M G) (hc : cN + 3 < 2 ^ 29) (hb : bN ≤ 600000) (hi : i < 44) (kk : ∀ F' M' G', TS (cN + 2) (bN + 12800) F' M' G' → J p l e room_1 s m args below meth c 21 D A cells slots Q (FB Y ad F' ++ [lwB Y la G']) 525 [(1, .ref (ad 8 2)), (0, .ref b), (2, .ref (la 0)), (3, .ref (la 1)), (4, .ref (la 2)), (5, .ref (la 3)), (6, .ref (la 4)), (7, .ref (la 5)), (8, .ref (la 6)), (9, .ref (la 7)), (10, .ref (la 8)), (11, .int (nI i))] []) : J p l e room_1 s m args below meth c 21 D A cells slots Q (FB Y ad F ++ [lwB Y la G]) 83 [(1, .ref (ad 8 2)), (0, .ref b), (2, .ref (la 0)), (3, .ref (la 1)), (4, .ref (la 2)), (5, .ref (la 3)), (6, .ref (la 4)), (7, .ref (la 5)), (8, .ref (la 6)), (9, .ref (la 7)), (10, .ref (la 8)), (11, .int (nI i))] [] := by
  have sg0 : vp_in (G 0 3) 7 := by
    obtain ⟨Ls, n, p, nS, t, ph, h, i, ht, o⟩ := ts.1.1
    exact (lb_of h i ts.2.1).2.2.1
  refine lw_k cx hcs hX hbA hL hi (fun x y k hk => ?_)
  refine lw_a cx hcs hX hbA hL hk sg0 (fun a a31 a0 a2 a3 a4 => ?_)
  refine lw_w cx hcs hX hbA hL hk a31 (fun w w0 w1 w2 w3 => ?_)
  refine lw_v cx hcs hX hbA hL (fun v v1 v2 => ?_)
  refine lw_tail cx hcs ts hc hb ?_ kk
  unfold Arg
  rcases (show k = 0 ∨ k = 1 ∨ k = 2 ∨ k = 3 ∨ k = 4 ∨ k = 5 by omega) with rfl | rfl | rfl | rfl | rfl | rfl
  · exact Or.inl ⟨rfl, a0 rfl, w0 rfl⟩
  · exact Or.inr (Or.inl ⟨rfl, (w1 rfl).1, (w1 rfl).2⟩)
  · exact Or.inr (Or.inr (Or.inl ⟨rfl, a2 rfl, w2 rfl, v1, v2⟩))
  · exact Or.inr (Or.inr (Or.inr (Or.inl ⟨rfl, a3 rfl, (w3 rfl).1, (w3 rfl).2⟩)))
  · exact Or.inr (Or.inr (Or.inr (Or.inr (Or.inl ⟨rfl, (a4 rfl).1, (a4 rfl).2⟩))))
  · exact Or.inr (Or.inr (Or.inr (Or.inr (Or.inr rfl))))
/-- the law's loop -/
theorem lw_loop (cx : Cx p s m args meth c cL_law 21 RL wsL_law D (tyL Y)) (hcs : cells ≤ room_1.cells ∧ slots ≤ room_1.slots) (hX : va_X b L xs s s.heap) (hbA : ¬ A b) (hL : L ≤ 260) (kE : ∀ Bs lv, J p l e room_1 s m args below meth c 21 D A cells slots Q Bs 531 lv []) : ∀ (n i cN bN : Nat) (F : Nat → Nat → Nat → Int32) (M G : Nat → Nat → Int32), i + n = 44 → TS cN bN F M G → cN + 2 * n + 3 < 2 ^ 29 → bN + 12800 * n ≤ 600000 → J p l e room_1 s m args below meth c 21 D A cells slots Q (FB Y ad F ++ [lwB Y la G]) 76 [(1, .ref (ad 8 2)), (0, .ref b), (2, .ref (la 0)), (3, .ref (la 1)), (4, .ref (la 2)), (5, .ref (la 3)), (6, .ref (la 4)), (7, .ref (la 5)), (8, .ref (la 6)), (9, .ref (la 7)), (10, .ref (la 8)), (11, .int (nI i))] [] := by
  intro n
  induction n with
  | zero =>
    intro i cN bN F M G hi ts hc hb
    refine j_iload cx (pc := 76) dL_law_76 11 rfl ?_
    refine j_bipush cx (pc := 78) (v := nI 44) dL_law_78 (by decide) ?_
    exact j_icmpN_ge cx (pc := 80) (by omega) (by decide) (tgt := 531) dL_law_80 (by decide) (fun _ => kE _ _) (fun h => by exfalso; omega)
  | succ n ih =>
    intro i cN bN F M G hi ts hc hb
    refine j_iload cx (pc := 76) dL_law_76 11 rfl ?_
    refine j_bipush cx (pc := 78) (v := nI 44) dL_law_78 (by decide) ?_
    refine j_icmpN_ge cx (pc := 80) (by omega) (by decide) (tgt := 531) dL_law_80 (by decide) (fun h => by exfalso; omega) (fun _ => ?_)
    refine lw_turn cx hcs hX hbA hL ts (by omega) (by omega) (by omega) (fun F' M' G' t' => ?_)
    refine j_iinc cx (pc := 525) (v := nI (i + 1)) (lv' := [(11, .int (nI (i + 1))), (1, .ref (ad 8 2)), (0, .ref b), (2, .ref (la 0)), (3, .ref (la 1)), (4, .ref (la 2)), (5, .ref (la 3)), (6, .ref (la 4)), (7, .ref (la 5)), (8, .ref (la 6)), (9, .ref (la 7)), (10, .ref (la 8))]) dL_law_525 11 rfl (show nI i + nI 1 = nI (i + 1) from nI_add _ _) (by decide) rfl ?_
    refine j_goto cx (pc := 528) (tgt := 76) dL_law_528 (by decide) ?_
    refine j_lv (lv' := [(1, .ref (ad 8 2)), (0, .ref b), (2, .ref (la 0)), (3, .ref (la 1)), (4, .ref (la 2)), (5, .ref (la 3)), (6, .ref (la 4)), (7, .ref (la 5)), (8, .ref (la 6)), (9, .ref (la 7)), (10, .ref (la 8)), (11, .int (nI (i + 1)))]) [1, 2, 3, 4, 5, 6, 7, 8, 9, 10, 11, 0] rfl ?_
    exact ih (i + 1) (cN + 2) (bN + 12800) F' M' G' (by omega) t' (by omega) (by omega)
end LARGS
