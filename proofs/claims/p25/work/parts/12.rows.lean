def C5_append (U : Nat → Nat → Int32) (word : Int32) : Nat → Nat → Int32 :=
  if 20 ≤ (tN (U 0 0)) then
    U
  else
    let V1 := up1 U 1 (tN (U 0 0)) word
    let V2 := up1 V1 0 0 ((V1 0 0) + (nI 1))
    V2
set_option maxHeartbeats 4000000 in
set_option maxRecDepth 100000 in
theorem c_X5_append (l : Launch) (D : va_G) (Y : Nat → ClassId) (a1 a2 : Nat) (U : Nat → Nat → Int32) (word : Int32) (hc : vp_in (U 0 0) 21) : CtV l yX5_append wsX5_append 0 0 D (tyL Y) ([rwB (Y 0) a1 a2 (U 0) (U 1)]) [.ref a1, .int word] ([rwB (Y 0) a1 a2 ((C5_append U word) 0) ((C5_append U word) 1)]) := by
  refine CtV.intro (own := RX5) (cc := cX5_append) (maxL := 2) rfl (by decide +kernel) rfl (Nat.le_of_ble_eq_true rfl) (fun p e s m args below meth c A Q hA hQ cx hr => ?_)
  have hinX5 : ∀ w ∈ wsX50, w ∈ wsX5_append := by decide +kernel
  have f9 : Cond.fieldLink RX5 9 "FourPhases$Row" "words" "[I" ∈ wsX5_append := by decide +kernel
  have f15 : Cond.fieldLink RX5 15 "FourPhases$Row" "count" "I" ∈ wsX5_append := by decide +kernel
  have hlt : tN (U 0 0) < 21 := inL hc
  refine j_aload_n cx (pc := 0) dX5_append_0 0 rfl ?_
  refine j_get cx (pc := 1) 0 0 rfl rfl (C := RX5) (T := TX5) (N := 2) rfl hinX5 1 (by decide) f15 rfl (v := .int (U 0 0)) rfl dX5_append_1 ?_
  refine j_top (show (U 0 0) = (nI (tN (U 0 0))) from inN hc) ?_
  refine j_bipush cx (pc := 4) (v := (nI 20)) dX5_append_4 (by decide) ?_
  refine j_icmpN_ge cx (pc := 6) (by omega) (by decide) (tgt := 29) dX5_append_6 (by decide) (fun c6_1 => ?_) (fun c6_1 => ?_)
  · skip
    subst hQ; exact j_vret cx hr (by simp only [C5_append, if_pos c6_1]) hA dX5_append_29
  · skip
    refine j_aload_n cx (pc := 9) dX5_append_9 0 rfl ?_
    refine j_get cx (pc := 10) 0 0 rfl rfl (C := RX5) (T := TX5) (N := 2) rfl hinX5 0 (by decide) f9 rfl (v := .ref a2) rfl dX5_append_10 ?_
    refine j_aload_n cx (pc := 13) dX5_append_13 0 rfl ?_
    refine j_get cx (pc := 14) 0 0 rfl rfl (C := RX5) (T := TX5) (N := 2) rfl hinX5 1 (by decide) f15 rfl (v := .int (U 0 0)) rfl dX5_append_14 ?_
    refine j_top (show (U 0 0) = (nI (tN (U 0 0))) from inN hc) ?_
    refine j_iload_n cx (pc := 17) dX5_append_17 1 rfl ?_
    obtain ⟨V1, hV1⟩ : ∃ z, z = up1 U 1 (tN (U 0 0)) word := ⟨_, rfl⟩
    refine j_iast cx (pc := 18) 0 1 0 rfl rfl rfl (by omega) (by decide) (Bs' := [rwB (Y 0) a1 a2 (V1 0) (V1 1)]) (by rw [hV1]; rfl) dX5_append_18 ?_
    refine j_aload_n cx (pc := 19) dX5_append_19 0 rfl ?_
    refine j_dup cx (pc := 20) dX5_append_20 rfl ?_
    refine j_get cx (pc := 21) 0 0 rfl rfl (C := RX5) (T := TX5) (N := 2) rfl hinX5 1 (by decide) f15 rfl (v := .int (V1 0 0)) rfl dX5_append_21 ?_
    refine j_iconst cx (pc := 24) (v := (nI 1)) dX5_append_24 (by decide) ?_
    refine j_iadd cx (pc := 25) dX5_append_25 ?_
    obtain ⟨V2, hV2⟩ : ∃ z, z = up1 V1 0 0 ((V1 0 0) + (nI 1)) := ⟨_, rfl⟩
    refine j_put cx (pc := 26) 0 0 rfl rfl (C := RX5) (T := TX5) (N := 2) rfl hinX5 tyX5 tyX5_ok nmX5 1 (by decide) f15 rfl rfl rfl rfl (Nat.le_of_ble_eq_true rfl) (Bs' := [rwB (Y 0) a1 a2 (V2 0) (V2 1)]) (by rw [hV2]; rfl) dX5_append_26 ?_
    subst hQ; exact j_vret cx hr (by subst hV2; subst hV1; simp only [C5_append, if_neg (Nat.not_le.mpr c6_1)]) hA dX5_append_29
def C5_wordAt (U : Nat → Nat → Int32) (place : Int32) : Int32 :=
  if place < 0 then
    (-1)
  else
    if (tN (U 0 0)) ≤ (tN place) then
      (-1)
    else
      (U 1 (tN place))
set_option maxHeartbeats 4000000 in
set_option maxRecDepth 100000 in
theorem c_X5_wordAt (l : Launch) (D : va_G) (Y : Nat → ClassId) (a1 a2 : Nat) (U : Nat → Nat → Int32) (place : Int32) (hc : vp_in (U 0 0) 21) : CtI l yX5_wordAt wsX5_wordAt 0 0 D (tyL Y) ([rwB (Y 0) a1 a2 (U 0) (U 1)]) [.ref a1, .int place] (C5_wordAt U place) ([rwB (Y 0) a1 a2 (U 0) (U 1)]) := by
  refine CtI.intro (own := RX5) (cc := cX5_wordAt) (maxL := 2) rfl (by decide +kernel) rfl (Nat.le_of_ble_eq_true rfl) (fun p e s m args below meth c A Q hA hQ cx hr => ?_)
  have hinX5 : ∀ w ∈ wsX50, w ∈ wsX5_wordAt := by decide +kernel
  have f9 : Cond.fieldLink RX5 9 "FourPhases$Row" "words" "[I" ∈ wsX5_wordAt := by decide +kernel
  have f15 : Cond.fieldLink RX5 15 "FourPhases$Row" "count" "I" ∈ wsX5_wordAt := by decide +kernel
  have hlt : tN (U 0 0) < 21 := inL hc
  refine j_iload_n cx (pc := 0) dX5_wordAt_0 1 rfl ?_
  refine j_if_lt cx (pc := 1) (tgt := 21) dX5_wordAt_1 (by decide) (fun c1_1 => ?_) (fun c1_1 => ?_)
  · skip
    refine j_iconst cx (pc := 21) (v := (-1)) dX5_wordAt_21 (by decide) ?_
    subst hQ; exact j_iret cx hr (by simp only [C5_wordAt, if_pos c1_1]) rfl hA dX5_wordAt_22
  · skip
    have hp : place = nI (tN place) := inG c1_1
    have hp31 : tN place < 2 ^ 31 := tN_lt _
    refine j_iload_n cx (pc := 4) dX5_wordAt_4 1 rfl ?_
    refine j_top (show place = (nI (tN place)) from hp) ?_
    refine j_aload_n cx (pc := 5) dX5_wordAt_5 0 rfl ?_
    refine j_get cx (pc := 6) 0 0 rfl rfl (C := RX5) (T := TX5) (N := 2) rfl hinX5 1 (by decide) f15 rfl (v := .int (U 0 0)) rfl dX5_wordAt_6 ?_
    refine j_top (show (U 0 0) = (nI (tN (U 0 0))) from inN hc) ?_
    refine j_icmpN_ge cx (pc := 9) (by omega) (by omega) (tgt := 21) dX5_wordAt_9 (by decide) (fun c9_2 => ?_) (fun c9_2 => ?_)
    · skip
      refine j_iconst cx (pc := 21) (v := (-1)) dX5_wordAt_21 (by decide) ?_
      subst hQ; exact j_iret cx hr (by simp only [C5_wordAt, if_neg c1_1, if_pos c9_2]) rfl hA dX5_wordAt_22
    · skip
      refine j_aload_n cx (pc := 12) dX5_wordAt_12 0 rfl ?_
      refine j_get cx (pc := 13) 0 0 rfl rfl (C := RX5) (T := TX5) (N := 2) rfl hinX5 0 (by decide) f9 rfl (v := .ref a2) rfl dX5_wordAt_13 ?_
      refine j_iload_n cx (pc := 16) dX5_wordAt_16 1 rfl ?_
      refine j_top (show place = (nI (tN place)) from hp) ?_
      refine j_iald cx (pc := 17) 0 1 0 rfl rfl rfl (by omega) (by decide) dX5_wordAt_17 ?_
      refine j_goto cx (pc := 18) (tgt := 22) dX5_wordAt_18 (by decide) ?_
      subst hQ; exact j_iret cx hr (by simp only [C5_wordAt, if_neg c1_1, if_neg (Nat.not_le.mpr c9_2)]) rfl hA dX5_wordAt_22
def rmL (n : Nat) : Nat → Nat → (Nat → Int32) → (Nat → Int32)
  | 0, _, t => t
  | q + 1, i, t => if n ≤ i then t else rmL n q (i + 1) (upd t i (t (i + 1)))
def C5_removeFirst (U : Nat → Nat → Int32) : Int32 × (Nat → Nat → Int32) :=
  if 0 < tN (U 0 0) then (U 1 0, setC (up1 U 0 0 (U 0 0 - nI 1)) 1 (rmL (tN (U 0 0) - 1) 20 0 (U 1))) else ((-1), U)
set_option maxHeartbeats 4000000 in
set_option maxRecDepth 100000 in
theorem c_X5_removeFirst (l : Launch) (D : va_G) (Y : Nat → ClassId) (a1 a2 : Nat) (U : Nat → Nat → Int32) (hc : vp_in (U 0 0) 21) : CtI l yX5_removeFirst wsX5_removeFirst 0 0 D (tyL Y) [rwB (Y 0) a1 a2 (U 0) (U 1)] [.ref a1] (C5_removeFirst U).1 [rwB (Y 0) a1 a2 ((C5_removeFirst U).2 0) ((C5_removeFirst U).2 1)] := by
  refine CtI.intro (own := RX5) (cc := cX5_removeFirst) (maxL := 3) rfl (by decide +kernel) rfl (Nat.le_of_ble_eq_true rfl) (fun p e s m args below meth c A Q hA hQ cx hr => ?_)
  have hinX5 : ∀ w ∈ wsX50, w ∈ wsX5_removeFirst := by decide +kernel
  have f9 : Cond.fieldLink RX5 9 "FourPhases$Row" "words" "[I" ∈ wsX5_removeFirst := by decide +kernel
  have f15 : Cond.fieldLink RX5 15 "FourPhases$Row" "count" "I" ∈ wsX5_removeFirst := by decide +kernel
  have hlt : tN (U 0 0) < 21 := inL hc
  have loop : 0 < tN (U 0 0) → ∀ (q i : Nat) (sc t : Nat → Int32), i + q = 20 → sc = upd (U 0) 0 (U 0 0 - nI 1) → rmL (tN (U 0 0) - 1) q i t = rmL (tN (U 0 0) - 1) 20 0 (U 1) → J p l e { frames := 0, cells := 0, slots := 0, locals := 0 } s m args below meth c 3 D A 0 0 Q [rwB (Y 0) a1 a2 sc t] 28 [(2, .int (nI i)), (0, .ref a1), (1, .int (U 1 0))] [] := by
    intro hpos q
    have hm : U 0 0 - nI 1 = nI (tN (U 0 0) - 1) := by rw [← pk_sub hpos, ← inN hc]
    induction q with
    | zero =>
      intro i sc t hq h0 hS
      refine j_iload_n cx (pc := 28) dX5_removeFirst_28 0 rfl ?_
      refine j_aload_n cx (pc := 29) dX5_removeFirst_29 1 rfl ?_
      refine j_get cx (pc := 30) 0 0 rfl rfl (C := RX5) (T := TX5) (N := 2) rfl hinX5 1 (by decide) f15 rfl (v := .int (sc 0)) rfl dX5_removeFirst_30 ?_
      refine j_top (show (sc 0) = (nI (tN (U 0 0) - 1)) from (by rw [h0]; exact hm)) ?_
      refine j_icmpN_ge cx (pc := 33) (by omega) (by omega) (tgt := 56) dX5_removeFirst_33 (by decide) (fun c33_1 => ?_) (fun c33_1 => by exfalso; omega)
      refine j_iload_n cx (pc := 56) dX5_removeFirst_56 2 rfl ?_
      subst hQ; exact j_iret cx hr (by rw [C5_removeFirst, if_pos hpos]) (by rw [C5_removeFirst, if_pos hpos, ← hS]; simp only [rmL, h0]; rfl) hA dX5_removeFirst_57
    | succ q ih =>
      intro i sc t hq h0 hS
      refine j_iload_n cx (pc := 28) dX5_removeFirst_28 0 rfl ?_
      refine j_aload_n cx (pc := 29) dX5_removeFirst_29 1 rfl ?_
      refine j_get cx (pc := 30) 0 0 rfl rfl (C := RX5) (T := TX5) (N := 2) rfl hinX5 1 (by decide) f15 rfl (v := .int (sc 0)) rfl dX5_removeFirst_30 ?_
      refine j_top (show (sc 0) = (nI (tN (U 0 0) - 1)) from (by rw [h0]; exact hm)) ?_
      refine j_icmpN_ge cx (pc := 33) (by omega) (by omega) (tgt := 56) dX5_removeFirst_33 (by decide) (fun c33_1 => ?_) (fun c33_1 => ?_)
      · skip
        refine j_iload_n cx (pc := 56) dX5_removeFirst_56 2 rfl ?_
        subst hQ; exact j_iret cx hr (by rw [C5_removeFirst, if_pos hpos]) (by rw [C5_removeFirst, if_pos hpos, ← hS]; simp only [rmL, if_pos c33_1, h0]; rfl) hA dX5_removeFirst_57
      · skip
        refine j_aload_n cx (pc := 36) dX5_removeFirst_36 1 rfl ?_
        refine j_get cx (pc := 37) 0 0 rfl rfl (C := RX5) (T := TX5) (N := 2) rfl hinX5 0 (by decide) f9 rfl (v := .ref a2) rfl dX5_removeFirst_37 ?_
        refine j_iload_n cx (pc := 40) dX5_removeFirst_40 0 rfl ?_
        refine j_aload_n cx (pc := 41) dX5_removeFirst_41 1 rfl ?_
        refine j_get cx (pc := 42) 0 0 rfl rfl (C := RX5) (T := TX5) (N := 2) rfl hinX5 0 (by decide) f9 rfl (v := .ref a2) rfl dX5_removeFirst_42 ?_
        refine j_iload_n cx (pc := 45) dX5_removeFirst_45 0 rfl ?_
        refine j_iconst cx (pc := 46) (v := (nI 1)) dX5_removeFirst_46 (by decide) ?_
        refine j_iaddN cx (pc := 47) dX5_removeFirst_47 ?_
        refine j_iald cx (pc := 48) 0 1 0 rfl rfl rfl (by omega) (by decide) dX5_removeFirst_48 ?_
        obtain ⟨V1, hV1⟩ : ∃ z, z = upd t i (t (i + 1)) := ⟨_, rfl⟩
        refine j_iast cx (pc := 49) 0 1 0 rfl rfl rfl (by omega) (by decide) (Bs' := [rwB (Y 0) a1 a2 sc V1]) (by rw [hV1]; rfl) dX5_removeFirst_49 ?_
        refine j_iinc cx (pc := 50) (v := (nI (i + 1))) (lv' := [(2, .int (nI (i + 1))), (0, .ref a1), (1, .int (U 1 0))]) dX5_removeFirst_50 0 rfl (show nI i + nI 1 = nI (i + 1) from nI_add _ _) (by decide) rfl ?_
        refine j_goto cx (pc := 53) (tgt := 28) dX5_removeFirst_53 (by decide) ?_
        exact ih (i + 1) sc V1 (by omega) h0 (by subst hV1; rw [← hS]; simp only [rmL, if_neg (Nat.not_le.mpr c33_1)])
  refine j_aload_n cx (pc := 0) dX5_removeFirst_0 0 rfl ?_
  refine j_get cx (pc := 1) 0 0 rfl rfl (C := RX5) (T := TX5) (N := 2) rfl hinX5 1 (by decide) f15 rfl (v := .int (U 0 0)) rfl dX5_removeFirst_1 ?_
  refine j_top (show (U 0 0) = (nI (tN (U 0 0))) from inN hc) ?_
  refine j_ifN_gt cx (pc := 4) (by omega) (tgt := 9) dX5_removeFirst_4 (by decide) (fun c4_1 => ?_) (fun c4_1 => ?_)
  · skip
    refine j_aload_n cx (pc := 9) dX5_removeFirst_9 0 rfl ?_
    refine j_get cx (pc := 10) 0 0 rfl rfl (C := RX5) (T := TX5) (N := 2) rfl hinX5 0 (by decide) f9 rfl (v := .ref a2) rfl dX5_removeFirst_10 ?_
    refine j_iconst cx (pc := 13) (v := (nI 0)) dX5_removeFirst_13 (by decide) ?_
    refine j_iald cx (pc := 14) 0 1 0 rfl rfl rfl (by decide) (by decide) dX5_removeFirst_14 ?_
    refine j_istore_n cx (pc := 15) (lv' := [(1, .int (U 1 0)), (0, .ref a1)]) dX5_removeFirst_15 (by decide) rfl ?_
    refine j_aload_n cx (pc := 16) dX5_removeFirst_16 1 rfl ?_
    refine j_dup cx (pc := 17) dX5_removeFirst_17 rfl ?_
    refine j_get cx (pc := 18) 0 0 rfl rfl (C := RX5) (T := TX5) (N := 2) rfl hinX5 1 (by decide) f15 rfl (v := .int (U 0 0)) rfl dX5_removeFirst_18 ?_
    refine j_iconst cx (pc := 21) (v := (nI 1)) dX5_removeFirst_21 (by decide) ?_
    refine j_isub cx (pc := 22) dX5_removeFirst_22 ?_
    obtain ⟨V1, hV1⟩ : ∃ z, z = up1 U 0 0 ((U 0 0) - (nI 1)) := ⟨_, rfl⟩
    refine j_put cx (pc := 23) 0 0 rfl rfl (C := RX5) (T := TX5) (N := 2) rfl hinX5 tyX5 tyX5_ok nmX5 1 (by decide) f15 rfl rfl rfl rfl (Nat.le_of_ble_eq_true rfl) (Bs' := [rwB (Y 0) a1 a2 (V1 0) (V1 1)]) (by rw [hV1]; rfl) dX5_removeFirst_23 ?_
    refine j_iconst cx (pc := 26) (v := (nI 0)) dX5_removeFirst_26 (by decide) ?_
    refine j_istore_n cx (pc := 27) (lv' := [(2, .int (nI 0)), (1, .int (U 1 0)), (0, .ref a1)]) dX5_removeFirst_27 (by decide) rfl ?_
    refine j_lvm (lv' := [(2, .int (nI 0)), (0, .ref a1), (1, .int (U 1 0))]) (by intro z hz; simp only [List.mem_cons, List.not_mem_nil, or_false] at hz ⊢; rcases hz with rfl | rfl | rfl <;> simp) ?_
    subst hV1; exact loop c4_1 20 0 _ _ rfl rfl rfl
  · skip
    refine j_iconst cx (pc := 7) (v := (-1)) dX5_removeFirst_7 (by decide) ?_
    subst hQ; exact j_iret cx hr (by simp only [C5_removeFirst, if_neg (Nat.not_lt.mpr (Nat.le_of_eq c4_1))]) (by simp only [C5_removeFirst, if_neg (Nat.not_lt.mpr (Nat.le_of_eq c4_1))]) hA dX5_removeFirst_8
