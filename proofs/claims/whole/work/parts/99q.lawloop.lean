/-! the law's loop -/
theorem lw_more {L i : Nat} (hL : L ≤ 2048) (hi : i ≤ 4000) (h : ¬ nI L - nI 4 < nI i) : i + 4 ≤ L := by
  by_cases c : 4 ≤ L
  · rw [pk_sub c, nI_ltI (by omega) (by omega)] at h
    omega
  · exfalso
    apply h
    have small : ∀ z : Nat, z < 4 → nI z - nI 4 < nI 0 := by decide
    exact Int32.lt_of_lt_of_le (small L (by omega)) ((nI_leI (by decide) (by omega)).mpr (Nat.zero_le _))
section LCL
variable {p : Program} {l : Launch} {e : Env} {s : State} {m : MethodId} {args : Array Value} {below : List Frame} {meth : Method} {c : Code} {D : va_G} {Y : Nat → ClassId} {A : Nat → Prop} {cells slots : Nat} {Q : State → Prop} {b L : Nat} {xs : Nat → Int32} {ad : Nat → Nat → Nat} {mo : Nat → Nat} {F : Nat → Nat → Nat → Int32} {M : Nat → Nat → Int32} {i cN : Nat}
set_option maxHeartbeats 4000000 in
set_option maxRecDepth 100000 in
theorem lc_switch (h : LC p s m args meth c D Y A b L xs) (hcs : cells ≤ room_1.cells ∧ slots ≤ room_1.slots) (hi : i + 4 ≤ L) (hw : Wh cN F M) (hc : cN + 50 < 2 ^ 29) (kk : ∀ F' M', Wh (cN + 20) F' M' → J p l e room_1 s m args below meth c 4 D A cells slots Q (FB Y ad F' ++ [moB Y mo M']) 624 (lvL b (ad 8 2) (mo 0) i) []) {x : Nat} (hx : x < 32) : J p l e room_1 s m args below meth c 4 D A cells slots Q (FB Y ad F ++ [moB Y mo M]) 32 (lvL b (ad 8 2) (mo 0) i) [.int (nI x)] := by
  by_cases c22 : 22 ≤ x
  · refine j_tableOut h.1 (pc := 32) dL_law_32 (Or.inr ?_) (tgt := 624) (by decide) (kk F M (Wh_up hw (by omega)))
    rw [nI_toInt (by omega)]
    omega
  · match x, c22 with
    | 0, _ => exact j_tableIn h.1 (pc := 32) dL_law_32 (by decide) (by decide) (off := 104) (by decide) (tgt := 136) (by decide) (lc_build h hcs hi hw hc kk)
    | 1, _ => exact j_tableIn h.1 (pc := 32) dL_law_32 (by decide) (by decide) (off := 127) (by decide) (tgt := 159) (by decide) (lc_add h hcs hi hw hc kk)
    | 2, _ => exact j_tableIn h.1 (pc := 32) dL_law_32 (by decide) (by decide) (off := 160) (by decide) (tgt := 192) (by decide) (lc_run h hcs hi hw hc kk)
    | 3, _ => exact j_tableIn h.1 (pc := 32) dL_law_32 (by decide) (by decide) (off := 183) (by decide) (tgt := 215) (by decide) (lc_finish h hcs hi hw hc kk)
    | 4, _ => exact j_tableIn h.1 (pc := 32) dL_law_32 (by decide) (by decide) (off := 196) (by decide) (tgt := 228) (by decide) (lc_setDelay h hcs hi hw hc kk)
    | 5, _ => exact j_tableIn h.1 (pc := 32) dL_law_32 (by decide) (by decide) (off := 239) (by decide) (tgt := 271) (by decide) (lc_set h hcs hi hw hc kk)
    | 6, _ => exact j_tableIn h.1 (pc := 32) dL_law_32 (by decide) (by decide) (off := 272) (by decide) (tgt := 304) (by decide) (lc_type h hcs hi hw hc kk)
    | 7, _ => exact j_tableIn h.1 (pc := 32) dL_law_32 (by decide) (by decide) (off := 297) (by decide) (tgt := 329) (by decide) (lc_clearText h hcs hi hw hc kk)
    | 8, _ => exact j_tableIn h.1 (pc := 32) dL_law_32 (by decide) (by decide) (off := 310) (by decide) (tgt := 342) (by decide) (lc_perform h hcs hi hw hc kk)
    | 9, _ => exact j_tableIn h.1 (pc := 32) dL_law_32 (by decide) (by decide) (off := 323) (by decide) (tgt := 355) (by decide) (lc_undo h hcs hi hw hc kk)
    | 10, _ => exact j_tableIn h.1 (pc := 32) dL_law_32 (by decide) (by decide) (off := 336) (by decide) (tgt := 368) (by decide) (lc_keep h hcs hi hw hc kk)
    | 11, _ => exact j_tableIn h.1 (pc := 32) dL_law_32 (by decide) (by decide) (off := 349) (by decide) (tgt := 381) (by decide) (lc_restore h hcs hi hw hc kk)
    | 12, _ => exact j_tableIn h.1 (pc := 32) dL_law_32 (by decide) (by decide) (off := 362) (by decide) (tgt := 394) (by decide) (lc_link h hcs hi hw hc kk)
    | 13, _ => exact j_tableIn h.1 (pc := 32) dL_law_32 (by decide) (by decide) (off := 395) (by decide) (tgt := 427) (by decide) (lc_stage h hcs hi hw hc kk)
    | 14, _ => exact j_tableIn h.1 (pc := 32) dL_law_32 (by decide) (by decide) (off := 418) (by decide) (tgt := 450) (by decide) (lc_waiting h hcs hi hw hc kk)
    | 15, _ => exact j_tableIn h.1 (pc := 32) dL_law_32 (by decide) (by decide) (off := 451) (by decide) (tgt := 483) (by decide) (lc_noted h hcs hi hw hc kk)
    | 16, _ => exact j_tableIn h.1 (pc := 32) dL_law_32 (by decide) (by decide) (off := 484) (by decide) (tgt := 516) (by decide) (lc_total h hcs hi hw hc kk)
    | 17, _ => exact j_tableIn h.1 (pc := 32) dL_law_32 (by decide) (by decide) (off := 507) (by decide) (tgt := 539) (by decide) (lc_next h hcs hi hw hc kk)
    | 18, _ => exact j_tableIn h.1 (pc := 32) dL_law_32 (by decide) (by decide) (off := 520) (by decide) (tgt := 552) (by decide) (lc_quietIn h hcs hi hw hc kk)
    | 19, _ => exact j_tableIn h.1 (pc := 32) dL_law_32 (by decide) (by decide) (off := 533) (by decide) (tgt := 565) (by decide) (lc_ifLead h hcs hi hw hc kk)
    | 20, _ => exact j_tableIn h.1 (pc := 32) dL_law_32 (by decide) (by decide) (off := 566) (by decide) (tgt := 598) (by decide) (lc_leastLead h hcs hi hw hc kk)
    | 21, _ => exact j_tableIn h.1 (pc := 32) dL_law_32 (by decide) (by decide) (off := 579) (by decide) (tgt := 611) (by decide) (lc_dearest h hcs hi hw hc kk)
    | z + 22, q => exact absurd (Nat.le_add_left 22 z) q
set_option maxHeartbeats 4000000 in
set_option maxRecDepth 100000 in
theorem lc_loop (h : LC p s m args meth c D Y A b L xs) (hcs : cells ≤ room_1.cells ∧ slots ≤ room_1.slots) (kE : ∀ Bs lv, J p l e room_1 s m args below meth c 4 D A cells slots Q Bs 630 lv []) : ∀ (n i cN : Nat) (F : Nat → Nat → Nat → Int32) (M : Nat → Nat → Int32), L < i + 4 * n + 4 → i ≤ 2100 → Wh cN F M → cN + 20 * n + 50 < 2 ^ 29 → J p l e room_1 s m args below meth c 4 D A cells slots Q (FB Y ad F ++ [moB Y mo M]) 18 (lvL b (ad 8 2) (mo 0) i) [] := by
  have hL := h.2.2.2.2
  intro n
  induction n with
  | zero =>
    intro i cN F M hn hi hw hc
    refine j_iload_n h.1 (pc := 18) dL_law_18 0 rfl ?_
    refine j_aload_n h.1 (pc := 19) dL_law_19 1 rfl ?_
    refine lw_slen h (pc := 20) dL_law_20 ?_
    refine j_iconst h.1 (pc := 21) (v := nI 4) dL_law_21 (by decide) ?_
    refine j_isub h.1 (pc := 22) dL_law_22 ?_
    refine j_icmp_gt h.1 (pc := 23) (tgt := 630) dL_law_23 (by decide) (fun _ => kE _ _) (fun z => ?_)
    have := lw_more hL (by omega) z
    omega
  | succ n ih =>
    intro i cN F M hn hi hw hc
    refine j_iload_n h.1 (pc := 18) dL_law_18 0 rfl ?_
    refine j_aload_n h.1 (pc := 19) dL_law_19 1 rfl ?_
    refine lw_slen h (pc := 20) dL_law_20 ?_
    refine j_iconst h.1 (pc := 21) (v := nI 4) dL_law_21 (by decide) ?_
    refine j_isub h.1 (pc := 22) dL_law_22 ?_
    refine j_icmp_gt h.1 (pc := 23) (tgt := 630) dL_law_23 (by decide) (fun _ => kE _ _) (fun z => ?_)
    have hi4 := lw_more hL (by omega) z
    have kk : ∀ F' M', Wh (cN + 20) F' M' → J p l e room_1 s m args below meth c 4 D A cells slots Q (FB Y ad F' ++ [moB Y mo M']) 624 (lvL b (ad 8 2) (mo 0) i) [] := fun F' M' w => by
      refine j_iinc h.1 (pc := 624) (v := nI (i + 4)) (lv' := lvL b (ad 8 2) (mo 0) (i + 4)) dL_law_624 0 rfl (show nI i + nI 4 = nI (i + 4) from nI_add _ _) (by decide) rfl ?_
      refine j_goto h.1 (pc := 627) (tgt := 18) dL_law_627 (by decide) ?_
      exact ih (i + 4) (cN + 20) F' M' (by omega) (by omega) w (by omega)
    refine j_aload_n h.1 (pc := 26) dL_law_26 1 rfl ?_
    refine j_iload_n h.1 (pc := 27) dL_law_27 0 rfl ?_
    refine lw_sld h (pc := 28) (by omega) dL_law_28 ?_
    refine j_bipush h.1 (pc := 29) (v := nI 31) dL_law_29 (by decide) ?_
    refine j_iand h.1 (pc := 31) dL_law_31 ?_
    obtain ⟨x, hx, ex⟩ := pk_andE (xs i) (m := nI 31) 5 (by decide)
    rw [ex]
    exact lc_switch h hcs hi4 hw (by omega) kk hx
end LCL
