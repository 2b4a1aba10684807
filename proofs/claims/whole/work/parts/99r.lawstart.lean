/-! the law's start: the classes and arrays that the tables give, the two new objects -/
theorem lw_mem {w : Cond} (h : w ∈ tables_1) : w ∈ lw_tbl := List.mem_append_right _ h
theorem lw_ao1 : Cond.arrayOver (.object "FourPhases$Line") ∈ lw_tbl := lw_mem (List.mem_of_getElem? (i := 203) (by decide +kernel))
theorem lw_ao2 : Cond.arrayOver (.object "FourPhases$Link") ∈ lw_tbl := lw_mem (List.mem_of_getElem? (i := 26) (by decide +kernel))
theorem lw_ao3 : Cond.arrayOver (.object "FourPhases$Row") ∈ lw_tbl := lw_mem (List.mem_of_getElem? (i := 28) (by decide +kernel))
theorem lw_nw1 : Cond.methodLinkNest RX2 32 yX0_init RX7 ∈ lw_tbl := lw_mem (List.mem_of_getElem? (i := 31) (by decide +kernel))
theorem lw_nw2 : Cond.methodLinkNest RX2 39 yX4_init RX7 ∈ lw_tbl := lw_mem (List.mem_of_getElem? (i := 53) (by decide +kernel))
theorem lw_nw3 : Cond.methodLinkNest RX2 47 yX3_init RX7 ∈ lw_tbl := lw_mem (List.mem_of_getElem? (i := 77) (by decide +kernel))
theorem lw_nw4 : Cond.methodLinkNest RX2 48 yX5_init RX7 ∈ lw_tbl := lw_mem (List.mem_of_getElem? (i := 124) (by decide +kernel))
theorem lw_nw5 : Cond.methodLinkNest RX7 35 yX6_init RX7 ∈ lw_tbl := lw_mem (List.mem_of_getElem? (i := 215) (by decide +kernel))
theorem lw_acI : Cond.arrayClass .int ∈ lw_tbl := lw_mem (List.mem_of_getElem? (i := 50) (by decide +kernel))
theorem lw_arrI {s : State} {args : Array Value} (h : (Cond.arrayClass .int).before args s = true) : ∃ y : ClassId, ArrOfT s y .int ∧ va_RA s y .int := by
  obtain ⟨y, k, comp, h1, h2, h3⟩ := Cond.arrayClass_spec h
  exact ⟨y, fun n z => ⟨fun k h => (by cases h), k, h2, comp, h3⟩, h1⟩
theorem lw_arrO {s : State} {args : Array Value} {C : String} (h : (Cond.arrayOver (.object C)).before args s = true) : ∃ y : ClassId, ArrOfT s y (.object C) ∧ va_RA s y (.object C) := by
  obtain ⟨comp, y, k, h1, h2, h3, h4, h5⟩ := Cond.arrayOver_spec h
  exact ⟨y, fun n z => ⟨fun k h => (by cases h), k, h3, comp, h4⟩, k, comp, h3, h4, h1, h5⟩
theorem lw_AOs {s : State} {args : Array Value} (hts : ∀ w ∈ lw_tbl, w.before args s = true) : AOs s :=
  ⟨⟨va_AO.of (hts _ lw_ao1), va_AO.of (hts _ lw_ao2), va_AO.of (hts _ lw_ao3)⟩, va_Nw.of rfl (hts _ lw_nw1), va_Nw.of rfl (hts _ lw_nw2), va_Nw.of rfl (hts _ lw_nw3), va_Nw.of rfl (hts _ lw_nw4), va_Nw.of rfl (hts _ lw_nw5)⟩
theorem lw_ini {w : Cond} (h : w ∈ wsX7_init) : w ∈ lw_tbl := wsL_law_in w ((ggL_law_X7_init w h).1)
theorem lw_cls {s : State} {args : Array Value} (hts : ∀ w ∈ lw_tbl, w.before args s = true) : ∀ k : Nat, ∃ d : ClassId × (Nat → Nat), ∀ q : vw_C, vwCl[k]? = some q → u_Kn s q.1 q.2.1 q.2.2 d.1 d.2 := by
  have mk : ∀ (q0 : vw_C), (∃ (cC : ClassId) (iS : Nat → Nat), u_Kn s q0.1 q0.2.1 q0.2.2 cC iS) → ∃ d : ClassId × (Nat → Nat), ∀ q : vw_C, some q0 = some q → u_Kn s q.1 q.2.1 q.2.2 d.1 d.2 := fun q0 h => by
    obtain ⟨cC, iS, h⟩ := h
    exact ⟨(cC, iS), fun q e => by cases e; exact h⟩
  intro k
  match k with
  | 0 => exact mk (RX0, TX0, 4) (u_known (n := 4) hts wx_0 (hts (.instantiable RX0 4) (lw_ini (by decide +kernel))))
  | 1 => exact mk (RX1, TX1, 2) (u_known (n := 2) hts wx_1 (hts (.instantiable RX1 2) (lw_ini (by decide +kernel))))
  | 2 => exact mk (RX2, TX2, 12) (u_known (n := 12) hts wx_2 (hts (.instantiable RX2 12) (lw_ini (by decide +kernel))))
  | 3 => exact mk (RX3, TX3, 10) (u_known (n := 10) hts wx_3 (hts (.instantiable RX3 10) (lw_ini (by decide +kernel))))
  | 4 => exact mk (RX4, TX4, 5) (u_known (n := 5) hts wx_4 (hts (.instantiable RX4 5) (lw_ini (by decide +kernel))))
  | 5 => exact mk (RX5, TX5, 2) (u_known (n := 2) hts wx_5 (hts (.instantiable RX5 2) (lw_ini (by decide +kernel))))
  | 6 => exact mk (RX6, TX6, 7) (u_known (n := 7) hts wx_6 (hts (.instantiable RX6 7) (lw_ini (by decide +kernel))))
  | 7 => exact mk (RX7, TX7, 6) (u_known (n := 6) hts wx_7 (hts (.instantiable RX7 6) (wl_1 _ (by decide +kernel))))
  | 8 => exact mk (RX8, TX8, 12) (u_known (n := 12) hts wx_8 (hts (.instantiable RX8 12) (wl_1 _ (by decide +kernel))))
  | k + 9 => exact ⟨(0, fun _ => 0), fun q e => by simp [vwCl] at e⟩
theorem lw_K {s : State} {args : Array Value} (hts : ∀ w ∈ lw_tbl, w.before args s = true) : ∃ (D : va_G) (Y : Nat → ClassId), va_K D vwCl (tyL Y) s := by
  have hc := lw_cls hts
  obtain ⟨y0, a0⟩ := lw_arrI (hts _ lw_acI)
  obtain ⟨y2, a2⟩ := lw_arrO (hts _ lw_ao1)
  obtain ⟨y3, a3⟩ := lw_arrO (hts _ lw_ao2)
  obtain ⟨y4, a4⟩ := lw_arrO (hts _ lw_ao3)
  refine ⟨(fun k => (Classical.choose (hc k)).1, fun k => (Classical.choose (hc k)).2), fun k => [y0, y0, y2, y3, y4].getD k y0, fun k q hq => Classical.choose_spec (hc k) q hq, fun k q hq => ?_⟩
  match k, hq with
  | 0, hq => cases hq; exact a0
  | 1, hq => cases hq; exact a0
  | 2, hq => cases hq; exact a2
  | 3, hq => cases hq; exact a3
  | 4, hq => cases hq; exact a4
  | k + 5, hq => simp at hq
theorem lw_in1 {w : Cond} (h : w ∈ wsL_law_r1) : w ∈ wsL_law := by
  unfold wsL_law
  exact List.mem_append_left _ (List.mem_append_left _ (List.mem_append_left _ (List.mem_append_left _ (List.mem_append_left _ (List.mem_append_left _ (List.mem_append_left _ (List.mem_append_left _ (List.mem_append_left _ (List.mem_append_left _ (List.mem_append_left _ h))))))))))
theorem lw_in5 {w : Cond} (h : w ∈ wsL_law_r5) : w ∈ wsL_law := by
  unfold wsL_law
  exact List.mem_append_left _ (List.mem_append_left _ (List.mem_append_left _ (List.mem_append_left _ (List.mem_append_left _ (List.mem_append_left _ (List.mem_append_left _ (List.mem_append_left _ (List.mem_append_left _ (List.mem_append_left _ (List.mem_append_right _ (List.mem_append_right _ (List.mem_append_right _ (List.mem_append_right _ (List.mem_append_left _ h))))))))))))))
theorem hinX7i : ∀ w ∈ wsX70, w ∈ wsX7_init := by decide +kernel
theorem hinX8i : ∀ w ∈ wsX80, w ∈ wsX8_init := by decide +kernel
set_option maxHeartbeats 4000000 in
set_option maxRecDepth 100000 in
/-- THE LAW, from its entry -/
theorem whole_start {p : Program} {e : Env} {s : State} {m : MethodId} {below : List Frame} {meth : Method} {c : Code} (l : Launch) (hflags : l.flags = flags0) {b L : Nat} {xs : Nat → Int32} (hL : L ≤ 2048) (C0 : lw_At p s m meth c b L xs) : W p l e room_1 s m #[Value.ref b] below meth c s.heap [] 0 0 (lw_Z below #[Value.ref b] s) (entryFrame m ([Value.ref b] : List Value).toArray 4) := by
  obtain ⟨hx, hb, hr, hml, hown, hts, hX, hbl, hlocks, hgv⟩ := id C0
  obtain ⟨D, Y, hK⟩ := lw_K hts
  have hao := lw_AOs hts
  obtain ⟨A, hAe⟩ : ∃ z : Nat → Prop, z = fun q : Nat => s.heap.size ≤ q := ⟨_, rfl⟩
  have hA : ∀ q : Nat, s.heap.size ≤ q → A q := fun q h => by rw [hAe]; exact h
  have hA' : ∀ q : Nat, A q → s.heap.size ≤ q := fun q h => by rw [hAe] at h; exact h
  have hbA : ¬ A b := fun h => absurd (hA' b h) (Nat.not_le.mpr hbl)
  have cx : Cx p s m #[Value.ref b] meth c cL_law 4 RL wsL_law D (tyL Y) := ⟨hx, hb, hml, hown, fun w hw => hts w (wsL_law_in w hw), hK, hlocks⟩
  have h : LC p s m #[Value.ref b] meth c D Y A b L xs := ⟨cx, hX, hbl, hbA, hL⟩
  have kE : ∀ Bs lv, J p l e room_1 s m #[Value.ref b] below meth c 4 D A 231 8464 (lw_Z below #[Value.ref b] s) Bs 630 lv [] := fun Bs lv => by
    refine j_iconst cx (pc := 630) (v := 1) dL_law_630 (by decide) ?_
    intro H locs ls hP hD hS hl
    refine va_forget (fun q hq => hA' _ (hS.2.2 q hq)) ?_
    refine W.widen (k := 600000) (n := 7302249) (Nat.le_of_ble_eq_true rfl) (Nat.le_of_ble_eq_true rfl) ?_
    exact lw_ret hx hb hr hlocks dL_law_631
  have K : J p l e room_1 s m #[Value.ref b] below meth c 4 D A 0 0 (lw_Z below #[Value.ref b] s) [] 0 [(0, .ref b)] [] := by
    refine j_new cx (pc := 0) (C := RX7) (T := TX7) (N := 6) (fun w hw => (ggL_law_X7_init w (hinX7i w hw)).1) tyX7 tyX7_ok (show Cond.classLink RL 7 RX7 ∈ wsL_law from lw_in1 (by decide +kernel)) (lw_in1 (by decide +kernel)) (lw_in1 (by decide +kernel)) hA (ci := 7) rfl (fs := [.null, .null, .null, .int 0, .null, .null]) (fun j hj => by rcases (show j = 0 ∨ j = 1 ∨ j = 2 ∨ j = 3 ∨ j = 4 ∨ j = 5 from by omega) with rfl | rfl | rfl | rfl | rfl | rfl <;> rfl) (Nat.le_of_ble_eq_true rfl) (Nat.le_of_ble_eq_true rfl) dL_law_0 (fun q0 => ?_)
    refine j_dup cx (pc := 3) dL_law_3 rfl ?_
    refine j_ctor cx (pc := 4) (Rr := []) (Bc := [[(q0, .inr (7, [.null, .null, .null, .int 0, .null, .null]))]]) (c_X7_init l D Y q0) gL_law_X7_init rfl (lw_in1 (by decide +kernel)) (show Cond.methodLink RL 9 yX7_init ∈ wsL_law from lw_in1 (by decide +kernel)) (lw_in1 (by decide +kernel)) rfl ⟨by decide, by decide, by decide +kernel⟩ ⟨Nat.le_of_ble_eq_true rfl, Nat.le_of_ble_eq_true rfl⟩ rfl hA hao (Nat.le_of_ble_eq_true rfl) dL_law_4 ⟨Nat.le_of_ble_eq_true rfl, Nat.le_of_ble_eq_true rfl⟩ (fun u => ?_)
    refine j_astore_n cx (pc := 7) (lv' := [(1, .ref (cn82 q0 u 8 2)), (0, .ref b)]) dL_law_7 (by decide) rfl ?_
    refine j_bs (Bs' := FB Y (cn82 q0 u) fp_0) rfl ?_
    generalize cn82 q0 u = ad
    refine j_new cx (pc := 8) (C := RX8) (T := TX8) (N := 12) (fun w hw => (ggL_law_X8_init w (hinX8i w hw)).1) tyX8 tyX8_ok (show Cond.classLink RL 10 RX8 ∈ wsL_law from lw_in1 (by decide +kernel)) (lw_in1 (by decide +kernel)) (lw_in1 (by decide +kernel)) hA (ci := 8) rfl (fs := [.null, .null, .null, .int 0, .null, .int 0, .null, .int 0, .int 0, .int 0, .int 0, .int 0]) (fun j hj => by rcases (show j = 0 ∨ j = 1 ∨ j = 2 ∨ j = 3 ∨ j = 4 ∨ j = 5 ∨ j = 6 ∨ j = 7 ∨ j = 8 ∨ j = 9 ∨ j = 10 ∨ j = 11 from by omega) with rfl | rfl | rfl | rfl | rfl | rfl | rfl | rfl | rfl | rfl | rfl | rfl <;> rfl) (Nat.le_of_ble_eq_true rfl) (Nat.le_of_ble_eq_true rfl) dL_law_8 (fun q1 => ?_)
    refine j_dup cx (pc := 11) dL_law_11 rfl ?_
    refine j_ctor cx (pc := 12) (Rr := FB Y ad fp_0) (Bc := [[(q1, .inr (8, [.null, .null, .null, .int 0, .null, .int 0, .null, .int 0, .int 0, .int 0, .int 0, .int 0]))]]) (c_X8_init l D Y q1) gL_law_X8_init rfl (lw_in1 (by decide +kernel)) (show Cond.methodLink RL 12 yX8_init ∈ wsL_law from lw_in5 (by decide +kernel)) (lw_in5 (by decide +kernel)) rfl ⟨by decide, by decide, by decide +kernel⟩ ⟨Nat.le_of_ble_eq_true rfl, Nat.le_of_ble_eq_true rfl⟩ rfl hA hao (Nat.le_of_ble_eq_true rfl) dL_law_12 ⟨Nat.le_of_ble_eq_true rfl, Nat.le_of_ble_eq_true rfl⟩ (fun u1 => ?_)
    refine j_astore_n cx (pc := 15) (lv' := [(2, .ref (cns q1 u1 0)), (1, .ref (ad 8 2)), (0, .ref b)]) dL_law_15 (by decide) rfl ?_
    generalize cns q1 u1 = mo
    refine j_iconst cx (pc := 16) (v := nI 0) dL_law_16 (by decide) ?_
    refine j_istore_n cx (pc := 17) (lv' := [(3, .int (nI 0)), (2, .ref (mo 0)), (1, .ref (ad 8 2)), (0, .ref b)]) dL_law_17 (by decide) rfl ?_
    refine j_lvm (lv' := lvL b (ad 8 2) (mo 0) 0) (by intro z hz; simp only [List.mem_cons, List.not_mem_nil, or_false] at hz ⊢; rcases hz with rfl | rfl | rfl | rfl <;> simp) ?_
    refine j_widen (k := 231) (n := 8464) (by decide) (by decide) ?_
    exact lc_loop h ⟨Nat.le_of_ble_eq_true rfl, Nat.le_of_ble_eq_true rfl⟩ kE 513 0 0 fp_0 mo_0 (by omega) (by decide) (Wh_new 0) (by decide)
  rw [lg_entry_eq]
  exact K s.heap [] _ (fun k q h => by simp at h) ⟨fun i j p q h => by simp at h, fun k q h => by simp at h⟩ va_S.rf (lv_entry [.ref b] (Nat.le_of_ble_eq_true rfl))
