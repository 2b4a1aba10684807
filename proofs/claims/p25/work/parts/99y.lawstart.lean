/-! the law's start -/
theorem lw_mem {w : Cond} (h : w ∈ tables_1) : w ∈ lw_tbl := List.mem_append_right _ h
theorem lw_ao1 : Cond.arrayOver (.object "FourPhases$Line") ∈ lw_tbl := lw_mem (List.mem_of_getElem? (i := 201) (by decide +kernel))
theorem lw_ao2 : Cond.arrayOver (.object "FourPhases$Link") ∈ lw_tbl := lw_mem (List.mem_of_getElem? (i := 25) (by decide +kernel))
theorem lw_ao3 : Cond.arrayOver (.object "FourPhases$Row") ∈ lw_tbl := lw_mem (List.mem_of_getElem? (i := 27) (by decide +kernel))
theorem lw_nw1 : Cond.methodLinkNest RX2 32 yX0_init RX7 ∈ lw_tbl := lw_mem (List.mem_of_getElem? (i := 30) (by decide +kernel))
theorem lw_nw2 : Cond.methodLinkNest RX2 39 yX4_init RX7 ∈ lw_tbl := lw_mem (List.mem_of_getElem? (i := 52) (by decide +kernel))
theorem lw_nw3 : Cond.methodLinkNest RX2 47 yX3_init RX7 ∈ lw_tbl := lw_mem (List.mem_of_getElem? (i := 76) (by decide +kernel))
theorem lw_nw4 : Cond.methodLinkNest RX2 48 yX5_init RX7 ∈ lw_tbl := lw_mem (List.mem_of_getElem? (i := 122) (by decide +kernel))
theorem lw_nw5 : Cond.methodLinkNest RX7 35 yX6_init RX7 ∈ lw_tbl := lw_mem (List.mem_of_getElem? (i := 213) (by decide +kernel))
theorem lw_acI : Cond.arrayClass .int ∈ lw_tbl := lw_mem (List.mem_of_getElem? (i := 49) (by decide +kernel))
theorem lw_arrI {s : State} {args : Array Value} (h : (Cond.arrayClass .int).before args s = true) : ∃ y : ClassId, ArrOfT s y .int ∧ va_RA s y .int := by
  obtain ⟨y, k, comp, h1, h2, h3⟩ := Cond.arrayClass_spec h
  exact ⟨y, fun n z => ⟨fun k h => (by cases h), k, h2, comp, h3⟩, h1⟩
theorem lw_arrO {s : State} {args : Array Value} {C : String} (h : (Cond.arrayOver (.object C)).before args s = true) : ∃ y : ClassId, ArrOfT s y (.object C) ∧ va_RA s y (.object C) := by
  obtain ⟨comp, y, k, h1, h2, h3, h4, h5⟩ := Cond.arrayOver_spec h
  exact ⟨y, fun n z => ⟨fun k h => (by cases h), k, h3, comp, h4⟩, k, comp, h3, h4, h1, h5⟩
theorem lw_AOs {s : State} {args : Array Value} (hts : ∀ w ∈ lw_tbl, w.before args s = true) : AOs s :=
  ⟨⟨va_AO.of (hts _ lw_ao1), va_AO.of (hts _ lw_ao2), va_AO.of (hts _ lw_ao3)⟩, va_Nw.of rfl (hts _ lw_nw1), va_Nw.of rfl (hts _ lw_nw2), va_Nw.of rfl (hts _ lw_nw3), va_Nw.of rfl (hts _ lw_nw4), va_Nw.of rfl (hts _ lw_nw5)⟩
theorem lw_ini {w : Cond} (h : w ∈ wsX7_init) : w ∈ lw_tbl := wsL_law_in w ((ggL_law_X7_init w h).1)
theorem lw_cls {s : State} {args : Array Value} (hts : ∀ w ∈ lw_tbl, w.before args s = true) : ∀ k : Nat, ∃ d : ClassId × (Nat → Nat), ∀ q : vw_C, vwCl[k]? = some q → u_Kn s q.1 q.2.1 q.2.2 d.1 d.2 := by
  have mk : ∀ (q0 : vw_C), (∃ (cC : ClassId) (iS : Nat → Nat), u_Kn s q0.1 q0.2.1 q0.2.2 cC iS) → ∃ d : ClassId × (Nat → Nat), ∀ q : vw_C, some q0 = some q → u_Kn s q.1 q.2.1 q.2.2 d.1 d.2 := fun q0 h => by
    obtain ⟨cC, iS, h⟩ := h
    exact ⟨(cC, iS), fun q e => by cases e; exact h⟩
  intro k
  match k with
  | 0 => exact mk (RX0, TX0, 4) (u_known (n := 4) hts wx_0 (hts (.instantiable RX0 4) (lw_ini (by decide +kernel))))
  | 1 => exact mk (RX1, TX1, 2) (u_known (n := 2) hts wx_1 (hts (.instantiable RX1 2) (lw_ini (by decide +kernel))))
  | 2 => exact mk (RX2, TX2, 12) (u_known (n := 12) hts wx_2 (hts (.instantiable RX2 12) (lw_ini (by decide +kernel))))
  | 3 => exact mk (RX3, TX3, 10) (u_known (n := 10) hts wx_3 (hts (.instantiable RX3 10) (lw_ini (by decide +kernel))))
  | 4 => exact mk (RX4, TX4, 5) (u_known (n := 5) hts wx_4 (hts (.instantiable RX4 5) (lw_ini (by decide +kernel))))
  | 5 => exact mk (RX5, TX5, 2) (u_known (n := 2) hts wx_5 (hts (.instantiable RX5 2) (lw_ini (by decide +kernel))))
  | 6 => exact mk (RX6, TX6, 7) (u_known (n := 7) hts wx_6 (hts (.instantiable RX6 7) (lw_ini (by decide +kernel))))
  | 7 => exact mk (RX7, TX7, 6) (u_known (n := 6) hts wx_7 (hts (.instantiable RX7 6) (wl_1 _ (by decide +kernel))))
  | k + 8 => exact ⟨(0, fun _ => 0), fun q e => by simp [vwCl] at e⟩
theorem lw_K {s : State} {args : Array Value} (hts : ∀ w ∈ lw_tbl, w.before args s = true) : ∃ (D : va_G) (Y : Nat → ClassId), va_K D vwCl (tyL Y) s := by
  have hc := lw_cls hts
  obtain ⟨y0, a0⟩ := lw_arrI (hts _ lw_acI)
  obtain ⟨y2, a2⟩ := lw_arrO (hts _ lw_ao1)
  obtain ⟨y3, a3⟩ := lw_arrO (hts _ lw_ao2)
  obtain ⟨y4, a4⟩ := lw_arrO (hts _ lw_ao3)
  refine ⟨(fun k => (Classical.choose (hc k)).1, fun k => (Classical.choose (hc k)).2), fun k => [y0, y0, y2, y3, y4].getD k y0, fun k q hq => Classical.choose_spec (hc k) q hq, fun k q hq => ?_⟩
  match k, hq with
  | 0, hq => cases hq; exact a0
  | 1, hq => cases hq; exact a0
  | 2, hq => cases hq; exact a2
  | 3, hq => cases hq; exact a3
  | 4, hq => cases hq; exact a4
  | k + 5, hq => simp at hq
theorem lw_in1 {w : Cond} (h : w ∈ wsL_law_r1) : w ∈ wsL_law := by
  unfold wsL_law
  exact List.mem_append_left _ (List.mem_append_left _ (List.mem_append_left _ (List.mem_append_left _ (List.mem_append_left _ (List.mem_append_left _ (List.mem_append_left _ (List.mem_append_left _ (List.mem_append_left _ (List.mem_append_left _ h)))))))))
theorem hinX7i : ∀ w ∈ wsX70, w ∈ wsX7_init := by decide +kernel
theorem Wh_new (c : Nat) : Wh c fp_0 mo_0 := by
  obtain ⟨r, i, o⟩ := G_new c
  have g : Gd c ln_N (mo_0 1) := ⟨_, _, _, _, _, _, r, i, by decide, o⟩
  have m0 : ∀ a, a ≠ 1 → mo_0 a = fun _ => nI 0 := fun a ha => by
    unfold mo_0
    rw [cln_c _ _ ha]
    exact setC_ne ha
  have m00 : ∀ i, mo_0 0 i = nI 0 := fun i => by rw [m0 0 (by decide)]
  refine ⟨g, ⟨0, by decide, rfl, m00 0, fun i => i, fun i hi => ⟨hi, rfl⟩, fun i j _ _ e => e, fun i hi => absurd hi (Nat.not_lt_zero i)⟩, Or.inl ⟨rfl, m00 1, Gd_bo g⟩, 0, by decide, rfl, m00 2, fun i hi => absurd hi (Nat.not_lt_zero i), ?_⟩
  show vp_in (nI 0) 21
  exact vp_in_nI' (by decide)
abbrev z_9 : Nat → Nat → Int32 := fun _ _ => 0
theorem TS_new : TS 0 0 fp_0 mo_0 (up1 (CL_builds z_9 3) 0 0 (nI 1)) := by
  refine ⟨Wh_new 0, LQ_new, ?_⟩
  obtain ⟨r3, r4, -, -, -, -, -, r11, r12, -⟩ := cln_rest (up1 z_2 1 0 (nI 1)) (nI 3)
  show tN (C8_clean (up1 z_2 1 0 (nI 1)) (nI 3) 1 4) + 200 * (tN (C8_clean (up1 z_2 1 0 (nI 1)) (nI 3) 1 3) + 1) * (tN (C8_clean (up1 z_2 1 0 (nI 1)) (nI 3) 1 11) + tN (C8_clean (up1 z_2 1 0 (nI 1)) (nI 3) 1 12)) ≤ 0
  rw [r4, r11, r12, tN_nI (by decide)]
  omega
theorem flat9 (B : List va_W) (x0 x1 x2 x3 x4 x5 x6 x7 x8 : Nat × va_E) : (B ++ [[x0]] ++ [[x1]] ++ [[x2]] ++ [[x3]] ++ [[x4]] ++ [[x5]] ++ [[x6]] ++ [[x7]] ++ [[x8]]).flatten = (B ++ [[x0, x1, x2, x3, x4, x5, x6, x7, x8]]).flatten := by
  simp [List.flatten_append]
set_option maxHeartbeats 4000000 in
set_option maxRecDepth 100000 in
/-- THE LAW, from its entry -/
theorem whole_start {p : Program} {e : Env} {s : State} {m : MethodId} {below : List Frame} {meth : Method} {c : Code} (l : Launch) (hflags : l.flags = flags0) {b L : Nat} {xs : Nat → Int32} (hL : L ≤ 260) (C0 : lw_At p s m meth c b L xs) : W p l e room_1 s m #[Value.ref b] below meth c s.heap [] 0 0 (lw_Z below #[Value.ref b] s) (entryFrame m ([Value.ref b] : List Value).toArray 21) := by
  obtain ⟨hx, hb, hr, hml, hown, hts, hX, hbl, hlocks, hgv⟩ := id C0
  obtain ⟨D, Y, hK⟩ := lw_K hts
  have hao := lw_AOs hts
  obtain ⟨A, hAe⟩ : ∃ z : Nat → Prop, z = fun q : Nat => s.heap.size ≤ q := ⟨_, rfl⟩
  have hA : ∀ q : Nat, s.heap.size ≤ q → A q := fun q h => by rw [hAe]; exact h
  have hA' : ∀ q : Nat, A q → s.heap.size ≤ q := fun q h => by rw [hAe] at h; exact h
  have hbA : ¬ A b := fun h => absurd (hA' b h) (Nat.not_le.mpr hbl)
  have cx : Cx p s m #[Value.ref b] meth c cL_law 21 RL wsL_law D (tyL Y) := ⟨hx, hb, hml, hown, fun w hw => hts w (wsL_law_in w hw), hK, hlocks⟩
  have kE : ∀ Bs lv, J p l e room_1 s m #[Value.ref b] below meth c 21 D A 234 3653 (lw_Z below #[Value.ref b] s) Bs 531 lv [] := fun Bs lv => by
    refine j_iconst cx (pc := 531) (v := 1) dL_law_531 (by decide) ?_
    intro H locs ls hP hD hS hl
    refine va_forget (fun q hq => hA' _ (hS.2.2 q hq)) ?_
    refine W.widen (k := 600000) (n := 7302250) (Nat.le_of_ble_eq_true rfl) (Nat.le_of_ble_eq_true rfl) ?_
    exact lw_ret hx hb hr hlocks dL_law_532
  have K : J p l e room_1 s m #[Value.ref b] below meth c 21 D A 0 0 (lw_Z below #[Value.ref b] s) [] 0 [(0, .ref b)] [] := by
    refine j_new cx (pc := 0) (C := RX7) (T := TX7) (N := 6) (fun w hw => (ggL_law_X7_init w (hinX7i w hw)).1) tyX7 tyX7_ok (show Cond.classLink RL 41 RX7 ∈ wsL_law from lw_in1 (by decide +kernel)) (lw_in1 (by decide +kernel)) (lw_in1 (by decide +kernel)) hA (ci := 7) rfl (fs := [.null, .null, .null, .int 0, .null, .null]) (fun j hj => by rcases (show j = 0 ∨ j = 1 ∨ j = 2 ∨ j = 3 ∨ j = 4 ∨ j = 5 from by omega) with rfl | rfl | rfl | rfl | rfl | rfl <;> rfl) (Nat.le_of_ble_eq_true rfl) (Nat.le_of_ble_eq_true rfl) dL_law_0 (fun q0 => ?_)
    refine j_dup cx (pc := 3) dL_law_3 rfl ?_
    refine j_ctor cx (pc := 4) (Rr := []) (Bc := [[(q0, .inr (7, [.null, .null, .null, .int 0, .null, .null]))]]) (c_X7_init l D Y q0) gL_law_X7_init rfl (lw_in1 (by decide +kernel)) (show Cond.methodLink RL 98 yX7_init ∈ wsL_law from lw_in1 (by decide +kernel)) (lw_in1 (by decide +kernel)) rfl ⟨by decide, by decide, by decide +kernel⟩ ⟨Nat.le_of_ble_eq_true rfl, Nat.le_of_ble_eq_true rfl⟩ rfl hA hao (Nat.le_of_ble_eq_true rfl) dL_law_4 ⟨Nat.le_of_ble_eq_true rfl, Nat.le_of_ble_eq_true rfl⟩ (fun u => ?_)
    refine j_astore_n cx (pc := 7) (lv' := [(1, .ref (cn82 q0 u 8 2)), (0, .ref b)]) dL_law_7 (by decide) rfl ?_
    refine j_bs (Bs' := FB Y (cn82 q0 u) fp_0) rfl ?_
    generalize cn82 q0 u = ad
    refine j_bipush cx (pc := 8) (v := nI 13) dL_law_8 (by decide) ?_
    refine j_newa cx (pc := 10) (ty := .int) rfl (lw_in1 (by decide +kernel)) 0 rfl rfl (ra_int _) hA (by decide) (Nat.le_of_ble_eq_true rfl) (Nat.le_of_ble_eq_true rfl) (Nat.le_of_ble_eq_true rfl) dL_law_10 (fun a0 => ?_)
    refine j_astore_n cx (pc := 12) (lv' := [(2, .ref a0), (1, .ref (ad 8 2)), (0, .ref b)]) dL_law_12 (by decide) rfl ?_
    refine j_bipush cx (pc := 13) (v := nI 21) dL_law_13 (by decide) ?_
    refine j_newa cx (pc := 15) (ty := .int) rfl (lw_in1 (by decide +kernel)) 0 rfl rfl (ra_int _) hA (by decide) (Nat.le_of_ble_eq_true rfl) (Nat.le_of_ble_eq_true rfl) (Nat.le_of_ble_eq_true rfl) dL_law_15 (fun a1 => ?_)
    refine j_astore_n cx (pc := 17) (lv' := [(3, .ref a1), (2, .ref a0), (1, .ref (ad 8 2)), (0, .ref b)]) dL_law_17 (by decide) rfl ?_
    refine j_bipush cx (pc := 18) (v := nI 42) dL_law_18 (by decide) ?_
    refine j_newa cx (pc := 20) (ty := .int) rfl (lw_in1 (by decide +kernel)) 0 rfl rfl (ra_int _) hA (by decide) (Nat.le_of_ble_eq_true rfl) (Nat.le_of_ble_eq_true rfl) (Nat.le_of_ble_eq_true rfl) dL_law_20 (fun a2 => ?_)
    refine j_astore cx (pc := 22) (lv' := [(4, .ref a2), (3, .ref a1), (2, .ref a0), (1, .ref (ad 8 2)), (0, .ref b)]) dL_law_22 (by decide) rfl ?_
    refine j_bipush cx (pc := 24) (v := nI 27) dL_law_24 (by decide) ?_
    refine j_newa cx (pc := 26) (ty := .int) rfl (lw_in1 (by decide +kernel)) 0 rfl rfl (ra_int _) hA (by decide) (Nat.le_of_ble_eq_true rfl) (Nat.le_of_ble_eq_true rfl) (Nat.le_of_ble_eq_true rfl) dL_law_26 (fun a3 => ?_)
    refine j_astore cx (pc := 28) (lv' := [(5, .ref a3), (4, .ref a2), (3, .ref a1), (2, .ref a0), (1, .ref (ad 8 2)), (0, .ref b)]) dL_law_28 (by decide) rfl ?_
    refine j_bipush cx (pc := 30) (v := nI 40) dL_law_30 (by decide) ?_
    refine j_newa cx (pc := 32) (ty := .int) rfl (lw_in1 (by decide +kernel)) 0 rfl rfl (ra_int _) hA (by decide) (Nat.le_of_ble_eq_true rfl) (Nat.le_of_ble_eq_true rfl) (Nat.le_of_ble_eq_true rfl) dL_law_32 (fun a4 => ?_)
    refine j_astore cx (pc := 34) (lv' := [(6, .ref a4), (5, .ref a3), (4, .ref a2), (3, .ref a1), (2, .ref a0), (1, .ref (ad 8 2)), (0, .ref b)]) dL_law_34 (by decide) rfl ?_
    refine j_bipush cx (pc := 36) (v := nI 20) dL_law_36 (by decide) ?_
    refine j_newa cx (pc := 38) (ty := .int) rfl (lw_in1 (by decide +kernel)) 0 rfl rfl (ra_int _) hA (by decide) (Nat.le_of_ble_eq_true rfl) (Nat.le_of_ble_eq_true rfl) (Nat.le_of_ble_eq_true rfl) dL_law_38 (fun a5 => ?_)
    refine j_astore cx (pc := 40) (lv' := [(7, .ref a5), (6, .ref a4), (5, .ref a3), (4, .ref a2), (3, .ref a1), (2, .ref a0), (1, .ref (ad 8 2)), (0, .ref b)]) dL_law_40 (by decide) rfl ?_
    refine j_bipush cx (pc := 42) (v := nI 64) dL_law_42 (by decide) ?_
    refine j_newa cx (pc := 44) (ty := .int) rfl (lw_in1 (by decide +kernel)) 0 rfl rfl (ra_int _) hA (by decide) (Nat.le_of_ble_eq_true rfl) (Nat.le_of_ble_eq_true rfl) (Nat.le_of_ble_eq_true rfl) dL_law_44 (fun a6 => ?_)
    refine j_astore cx (pc := 46) (lv' := [(8, .ref a6), (7, .ref a5), (6, .ref a4), (5, .ref a3), (4, .ref a2), (3, .ref a1), (2, .ref a0), (1, .ref (ad 8 2)), (0, .ref b)]) dL_law_46 (by decide) rfl ?_
    refine j_bipush cx (pc := 48) (v := nI 64) dL_law_48 (by decide) ?_
    refine j_newa cx (pc := 50) (ty := .int) rfl (lw_in1 (by decide +kernel)) 0 rfl rfl (ra_int _) hA (by decide) (Nat.le_of_ble_eq_true rfl) (Nat.le_of_ble_eq_true rfl) (Nat.le_of_ble_eq_true rfl) dL_law_50 (fun a7 => ?_)
    refine j_astore cx (pc := 52) (lv' := [(9, .ref a7), (8, .ref a6), (7, .ref a5), (6, .ref a4), (5, .ref a3), (4, .ref a2), (3, .ref a1), (2, .ref a0), (1, .ref (ad 8 2)), (0, .ref b)]) dL_law_52 (by decide) rfl ?_
    refine j_iconst cx (pc := 54) (v := nI 3) dL_law_54 (by decide) ?_
    refine j_newa cx (pc := 55) (ty := .int) rfl (lw_in1 (by decide +kernel)) 0 rfl rfl (ra_int _) hA (by decide) (Nat.le_of_ble_eq_true rfl) (Nat.le_of_ble_eq_true rfl) (Nat.le_of_ble_eq_true rfl) dL_law_55 (fun a8 => ?_)
    refine j_astore cx (pc := 57) (lv' := [(10, .ref a8), (9, .ref a7), (8, .ref a6), (7, .ref a5), (6, .ref a4), (5, .ref a3), (4, .ref a2), (3, .ref a1), (2, .ref a0), (1, .ref (ad 8 2)), (0, .ref b)]) dL_law_57 (by decide) rfl ?_
    refine j_flat (Bs' := FB Y ad fp_0 ++ [lwB Y (fun k => [a0, a1, a2, a3, a4, a5, a6, a7, a8].getD k 0) z_9]) (flat9 _ _ _ _ _ _ _ _ _ _) ?_
    refine j_iconst cx (pc := 59) (v := nI 3) dL_law_59 (by decide) ?_
    refine j_aload_n cx (pc := 60) dL_law_60 8 rfl ?_
    refine j_aload_n cx (pc := 61) dL_law_61 7 rfl ?_
    refine j_aload cx (pc := 62) dL_law_62 6 rfl ?_
    refine j_aload cx (pc := 64) dL_law_64 5 rfl ?_
    refine j_csv cx (pc := 66) 5 (c_L_builds l D Y (fun k => [a0, a1, a2, a3, a4, a5, a6, a7, a8].getD k 0) z_9 3) gL_law_L_builds rfl (by decide +kernel) rfl ⟨Nat.le_of_ble_eq_true rfl, Nat.le_of_ble_eq_true rfl⟩ [87] (FBx_s87 Y ad _ _) (by decide) (Bs' := FB Y ad fp_0 ++ [lwB Y (fun k => [a0, a1, a2, a3, a4, a5, a6, a7, a8].getD k 0) (CL_builds z_9 3)]) (FBx_p87 Y ad _ _ _) A1_lw rfl (Nat.le_of_ble_eq_true rfl) dL_law_66 ⟨Nat.le_of_ble_eq_true rfl, Nat.le_of_ble_eq_true rfl⟩ ?_
    refine j_aload_n cx (pc := 69) dL_law_69 8 rfl ?_
    refine j_iconst cx (pc := 70) (v := nI 0) dL_law_70 (by decide) ?_
    refine j_iconst cx (pc := 71) (v := nI 1) dL_law_71 (by decide) ?_
    refine j_iast cx (pc := 72) 87 0 0 (FBx_87 Y ad _ _) rfl rfl (by decide) (by decide) (Bs' := FB Y ad fp_0 ++ [lwB Y (fun k => [a0, a1, a2, a3, a4, a5, a6, a7, a8].getD k 0) (up1 (CL_builds z_9 3) 0 0 (nI 1))]) (FBx_w87 Y ad fp_0 _ _) dL_law_72 ?_
    refine j_iconst cx (pc := 73) (v := nI 0) dL_law_73 (by decide) ?_
    refine j_istore cx (pc := 74) (lv' := [(11, .int (nI 0)), (10, .ref a8), (9, .ref a7), (8, .ref a6), (7, .ref a5), (6, .ref a4), (5, .ref a3), (4, .ref a2), (3, .ref a1), (2, .ref a0), (1, .ref (ad 8 2)), (0, .ref b)]) dL_law_74 (by decide) rfl ?_
    refine j_lvm (lv' := [(1, .ref (ad 8 2)), (0, .ref b), (2, .ref a0), (3, .ref a1), (4, .ref a2), (5, .ref a3), (6, .ref a4), (7, .ref a5), (8, .ref a6), (9, .ref a7), (10, .ref a8), (11, .int (nI 0))]) (by intro z hz; simp only [List.mem_cons, List.not_mem_nil, or_false] at hz ⊢; rcases hz with rfl | rfl | rfl | rfl | rfl | rfl | rfl | rfl | rfl | rfl | rfl | rfl <;> simp) ?_
    refine j_widen (k := 234) (n := 3653) (by decide) (by decide) ?_
    exact lw_loop cx ⟨Nat.le_of_ble_eq_true rfl, Nat.le_of_ble_eq_true rfl⟩ hX hbA hL kE 44 0 0 0 fp_0 mo_0 _ rfl TS_new (by decide) (by decide)
  rw [lg_entry_eq]
  exact K s.heap [] _ (fun k q h => by simp at h) ⟨fun i j p q h => by simp at h, fun k q h => by simp at h⟩ va_S.rf (lv_entry [.ref b] (Nat.le_of_ble_eq_true rfl))
