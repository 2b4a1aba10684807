/-! the law's rows: q, d, e, f, w, p, t, c, g as one block -/
def lwB (Y : Nat → ClassId) (la : Nat → Nat) (G : Nat → Nat → Int32) : va_W := [(la 0, ia (Y 0) 13 (G 0)), (la 1, ia (Y 0) 21 (G 1)), (la 2, ia (Y 0) 42 (G 2)), (la 3, ia (Y 0) 27 (G 3)), (la 4, ia (Y 0) 40 (G 4)), (la 5, ia (Y 0) 20 (G 5)), (la 6, ia (Y 0) 64 (G 6)), (la 7, ia (Y 0) 64 (G 7)), (la 8, ia (Y 0) 3 (G 8))]
theorem A1_lw {Y : Nat → ClassId} {la : Nat → Nat} {G G' : Nat → Nat → Int32} : adr [lwB Y la G] = adr [lwB Y la G'] := rfl
theorem FBx_87 (Y : Nat → ClassId) (ad : Nat → Nat → Nat) (F : Nat → Nat → Nat → Int32) (X : va_W) : (FB Y ad F ++ [X])[87]? = some X := by
  have h := List.getElem?_append_right (l₁ := FB Y ad F) (l₂ := [X]) (i := 87) (Nat.le_of_eq (FB_len Y ad F))
  rw [h, FB_len]; rfl
theorem FBx_s (Y : Nat → ClassId) (ad : Nat → Nat → Nat) (F : Nat → Nat → Nat → Int32) (X : va_W) : (List.range 87).map (fun i => (FB Y ad F ++ [X])[i]?) = (FB Y ad F).map some := by
  have := sel_seg [] (FB Y ad F) [X]
  rw [List.nil_append, FB_len] at this
  rw [List.range_eq_range']; exact this
theorem FBx_p (Y : Nat → ClassId) (ad : Nat → Nat → Nat) (F F' : Nat → Nat → Nat → Int32) (X : va_W) : putL (FB Y ad F ++ [X]) (List.range 87) (FB Y ad F') = FB Y ad F' ++ [X] := by
  have := putL_seg [] (FB Y ad F) (FB Y ad F') [X] rfl
  rw [List.nil_append, FB_len, List.nil_append] at this
  rw [List.range_eq_range']; exact this
theorem FBx_s87 (Y : Nat → ClassId) (ad : Nat → Nat → Nat) (F : Nat → Nat → Nat → Int32) (X : va_W) : [87].map (fun i => (FB Y ad F ++ [X])[i]?) = [X].map some := by
  rw [List.map_cons, FBx_87]; rfl
theorem FBx_p87 (Y : Nat → ClassId) (ad : Nat → Nat → Nat) (F : Nat → Nat → Nat → Int32) (X X' : va_W) : putL (FB Y ad F ++ [X]) [87] [X'] = FB Y ad F ++ [X'] := by
  have := putL_seg (FB Y ad F) [X] [X'] [] rfl
  rw [List.append_nil, List.append_nil, FB_len] at this
  exact this
theorem lvp_up {V : Nat → Nat → Int32} {c i a j n : Nat} {x : Int32} (h : ¬ (a = c ∧ j = i)) (hn : vp_in (V a j) n) : vp_in (up1 V c i x a j) n := by
  have e : up1 V c i x a j = V a j := by
    show setC V c (upd (V c) i x) a j = V a j
    by_cases q : a = c
    · subst q
      rw [setC_eq]
      exact if_neg (fun z => h ⟨rfl, z⟩)
    · rw [setC_ne q]
  rw [e]; exact hn
theorem lvp_set {V : Nat → Nat → Int32} {c a j n : Nat} {g : Nat → Int32} (h : a ≠ c) (hn : vp_in (V a j) n) : vp_in (setC V c g a j) n := by rw [setC_ne h]; exact hn
theorem lup_ne {V : Nat → Nat → Int32} {c i a j : Nat} {x : Int32} (h : ¬ (a = c ∧ j = i)) : up1 V c i x a j = V a j := by
  show setC V c (upd (V c) i x) a j = V a j
  by_cases q : a = c
  · subst q
    rw [setC_eq]
    exact if_neg (fun z => h ⟨rfl, z⟩)
  · rw [setC_ne q]
/-- a stretch of a row filled with one number -/
def fil (f : Nat → Int32) (a i : Nat) (x : Int32) : Nat → Int32 := fun j => if a ≤ j ∧ j < i then x else f j
theorem fil_0 (V : Nat → Nat → Int32) (c a : Nat) (x : Int32) : setC V c (fil (V c) a a x) = V := by
  rw [show fil (V c) a a x = V c from funext fun j => if_neg (by omega)]; exact setC_self V c
theorem fil_s (V : Nat → Nat → Int32) (c a i : Nat) (x : Int32) (h : a ≤ i) : up1 (setC V c (fil (V c) a i x)) c i x = setC V c (fil (V c) a (i + 1) x) := by
  rw [up_setC]
  congr 1
  funext j
  show (if j = i then _ else (if a ≤ j ∧ j < i then _ else _)) = (if a ≤ j ∧ j < i + 1 then _ else _)
  by_cases h2 : j = i
  · subst h2; rw [if_pos rfl, if_pos (by omega)]
  · rw [if_neg h2]
    by_cases h3 : a ≤ j ∧ j < i
    · rw [if_pos h3, if_pos (by omega)]
    · rw [if_neg h3, if_neg (by omega)]
theorem pk_dec (k : Nat) : nI k + Int32.ofInt (-1) = nI k - nI 1 := by rw [Int32.sub_eq_add_neg]; rfl
/-- the first of the earliest times, looked for from the last one on -/
def nxF (t : Nat → Int32) : Nat → Int32 → Int32
  | 0, x => x
  | k + 1, x => nxF t k (if x < 0 then nI k else if t (tN x) < t k then x else nI k)
theorem low_and (v : Int32) : v &&& nI 2147483647 = nI (tN (v &&& nI 2147483647)) := by
  obtain ⟨j, hj, e⟩ := pk_andE v (m := nI 2147483647) 31 (by decide +kernel)
  rw [e, tN_nI hj]
def CL_low (v : Int32) (n : Nat) : Nat := tN (v &&& nI 2147483647) % n
theorem low_lt (v : Int32) {n : Nat} (h : 0 < n) : CL_low v n < n := Nat.mod_lt _ h
theorem c_L_low (l : Launch) (D : va_G) (Y : Nat → ClassId) (v : Int32) (n : Nat) (h0 : 0 < n) (hn : n < 2 ^ 31) : CtI l yL_low wsL_low 0 0 D (tyL Y) [] [.int v, .int (nI n)] (nI (CL_low v n)) [] := by
  refine CtI.intro (own := RL) (cc := cL_low) (maxL := 2) rfl (by decide +kernel) rfl (Nat.le_of_ble_eq_true rfl) (fun p e s m args below meth c A Q hA hQ cx hr => ?_)
  refine j_iload_n cx (pc := 0) dL_low_0 0 rfl ?_
  refine j_ldc cx (pc := 1) (v := nI 2147483647) (show Cond.constant RL 9 (2147483647) ∈ wsL_low from by decide +kernel) dL_low_1 ?_
  refine j_iand cx (pc := 3) dL_low_3 ?_
  refine j_top (low_and v) ?_
  refine j_iload_n cx (pc := 4) dL_low_4 1 rfl ?_
  refine j_iremN cx (pc := 5) (tN_lt _) h0 hn dL_low_5 ?_
  subst hQ; exact j_iret cx hr rfl rfl hA dL_low_6
def CL_cell (L : Nat) (xs : Nat → Int32) (k : Nat) : Int32 := if k < L then xs k else nI 41389 * (nI k + nI 7) + nI 3107857
theorem c_L_cell (l : Launch) (D : va_G) (Y : Nat → ClassId) (b L : Nat) (xs : Nat → Int32) (k : Nat) (hk : k < 2 ^ 31) (hL : L < 2 ^ 31) : CtX l yL_cell wsL_cell 0 0 D (tyL Y) b L xs [.ref b, .int (nI k)] (CL_cell L xs k) := by
  refine CtX.intro (own := RL) (cc := cL_cell) (maxL := 2) rfl (by decide +kernel) rfl (Nat.le_of_ble_eq_true rfl) (fun p e s m args below meth c A Q hA hQ cx hr hX => ?_)
  have hbA : ¬ A b := by rw [hA]; exact id
  refine j_iload_n cx (pc := 0) dL_cell_0 1 rfl ?_
  refine j_aload_n cx (pc := 1) dL_cell_1 0 rfl ?_
  refine j_slen cx (pc := 2) hX hbA dL_cell_2 ?_
  refine j_icmpN_ge cx (pc := 3) hk hL (tgt := 12) dL_cell_3 (by decide) (fun h => ?_) (fun h => ?_)
  · refine j_ldc cx (pc := 12) (v := nI 41389) (show Cond.constant RL 7 (41389) ∈ wsL_cell from by decide +kernel) dL_cell_12 ?_
    refine j_iload_n cx (pc := 14) dL_cell_14 1 rfl ?_
    refine j_bipush cx (pc := 15) (v := nI 7) dL_cell_15 (by decide) ?_
    refine j_iadd cx (pc := 17) dL_cell_17 ?_
    refine j_imul cx (pc := 18) dL_cell_18 ?_
    refine j_ldc cx (pc := 19) (v := nI 3107857) (show Cond.constant RL 8 (3107857) ∈ wsL_cell from by decide +kernel) dL_cell_19 ?_
    refine j_iadd cx (pc := 21) dL_cell_21 ?_
    subst hQ; exact j_xret cx hr (by unfold CL_cell; rw [if_neg (by omega)]) hA dL_cell_22
  · refine j_aload_n cx (pc := 6) dL_cell_6 0 rfl ?_
    refine j_iload_n cx (pc := 7) dL_cell_7 1 rfl ?_
    refine j_sld cx (pc := 8) hX hbA h hL dL_cell_8 ?_
    refine j_goto cx (pc := 9) (tgt := 22) dL_cell_9 (by decide) ?_
    subst hQ; exact j_xret cx hr (by unfold CL_cell; rw [if_pos h]) hA dL_cell_22
