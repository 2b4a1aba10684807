def C8_putAside (M : Nat → Nat → Int32)  : Nat → Nat → Int32 :=
  let V1 := setC M 2 (cpN (M 1) (M 2) 719)
  V1
set_option maxHeartbeats 4000000 in
set_option maxRecDepth 100000 in
theorem c_X8_putAside (l : Launch) (D : va_G) (Y : Nat → ClassId) (mo : Nat → Nat) (M : Nat → Nat → Int32)   : CtV l yX8_putAside wsX8_putAside 0 0 D (tyL Y) ([moB Y mo M]) [.ref (mo 0)] ([moB Y mo (C8_putAside M )]) := by
  refine CtV.intro (own := RX8) (cc := cX8_putAside) (maxL := 2) rfl (by decide +kernel) rfl (Nat.le_of_ble_eq_true rfl) (fun p e s m args below meth c A Q hA hQ cx hr => ?_)
  have hinX8 : ∀ w ∈ wsX80, w ∈ wsX8_putAside := by decide +kernel
  have f7 : Cond.fieldLink RX8 7 "FourPhasesModel" "state" "[I" ∈ wsX8_putAside := by decide +kernel
  have f13 : Cond.fieldLink RX8 13 "FourPhasesModel" "spare" "[I" ∈ wsX8_putAside := by decide +kernel
  refine j_iconst cx (pc := 0) (v := (nI 0)) dX8_putAside_0 (by decide) ?_
  refine j_istore_n cx (pc := 1) (lv' := [(1, .int (nI 0)), (0, .ref (mo 0))]) dX8_putAside_1 (by decide) rfl ?_
  have lp1 : ∀ (n i : Nat), i + n = 719 → 0 ≤ i → J p l e { frames := 0, cells := 0, slots := 0, locals := 0 } s m args below meth c 2 D A 0 0 Q ([moB Y mo (setC M 2 (cpN (M 1) (M 2) i))]) 2 [(1, .int (nI i)), (0, .ref (mo 0))] [] := by
    intro n
    induction n with
    | zero =>
      intro i hi h0
      have hi2 : i = 719 := by omega
      subst hi2
      obtain ⟨V1, hV1⟩ : ∃ z, z = setC M 2 (cpN (M 1) (M 2) 719) := ⟨_, rfl⟩
      refine j_bs (Bs' := [moB Y mo V1]) (by rw [hV1]) ?_
      refine j_iload_n cx (pc := 2) dX8_putAside_2 0 rfl ?_
      refine j_sipush cx (pc := 3) (v := (nI 719)) dX8_putAside_3 (by decide) ?_
      refine j_icmpN_ge cx (pc := 6) (by decide) (by decide) (tgt := 27) dX8_putAside_6 (by decide) (fun c6_2 => ?_) (fun c6_2 => by exfalso; revert c6_2; decide)
      subst hQ; exact j_vret cx hr (by subst hV1; rfl) hA dX8_putAside_27
    | succ n ih =>
      intro i hi h0
      obtain ⟨V2, hV2⟩ : ∃ z, z = setC M 2 (cpN (M 1) (M 2) i) := ⟨_, rfl⟩
      refine j_bs (Bs' := [moB Y mo V2]) (by rw [hV2]) ?_
      refine j_iload_n cx (pc := 2) dX8_putAside_2 0 rfl ?_
      refine j_sipush cx (pc := 3) (v := (nI 719)) dX8_putAside_3 (by decide) ?_
      refine j_icmpN_ge cx (pc := 6) (by omega) (by decide) (tgt := 27) dX8_putAside_6 (by decide) (fun c6_3 => by exfalso; omega) (fun c6_3 => ?_)
      refine j_aload_n cx (pc := 9) dX8_putAside_9 1 rfl ?_
      refine j_get cx (pc := 10) 0 0 rfl rfl (C := RX8) (T := TX8) (N := 12) rfl hinX8 1 (by decide) f13 rfl (v := .ref (mo 2)) rfl dX8_putAside_10 ?_
      refine j_iload_n cx (pc := 13) dX8_putAside_13 0 rfl ?_
      refine j_aload_n cx (pc := 14) dX8_putAside_14 1 rfl ?_
      refine j_get cx (pc := 15) 0 0 rfl rfl (C := RX8) (T := TX8) (N := 12) rfl hinX8 0 (by decide) f7 rfl (v := .ref (mo 1)) rfl dX8_putAside_15 ?_
      refine j_iload_n cx (pc := 18) dX8_putAside_18 0 rfl ?_
      refine j_iald cx (pc := 19) 0 1 0 rfl rfl rfl (by omega) (by decide) dX8_putAside_19 ?_
      obtain ⟨V3, hV3⟩ : ∃ z, z = up1 V2 2 i (V2 1 i) := ⟨_, rfl⟩
      refine j_iast cx (pc := 20) 0 2 0 rfl rfl rfl (by omega) (by decide) (Bs' := [moB Y mo V3]) (by rw [hV3]; rfl) dX8_putAside_20 ?_
      refine j_iinc cx (pc := 21) (v := (nI (i + 1))) (lv' := [(1, .int (nI (i + 1))), (0, .ref (mo 0))]) dX8_putAside_21 0 rfl (show nI i + nI 1 = nI (i + 1) from nI_add _ _) (by decide) rfl ?_
      refine j_goto cx (pc := 24) (tgt := 2) dX8_putAside_24 (by decide) ?_
      refine j_lvm (lv' := [(1, .int (nI (i + 1))), (0, .ref (mo 0))]) (by intro z hz; simp only [List.mem_cons, List.not_mem_nil, or_false] at hz ⊢; rcases hz with rfl | rfl <;> simp) ?_
      refine j_bs (Bs' := [moB Y mo (setC M 2 (cpN (M 1) (M 2) (i + 1)))]) (by subst hV3; subst hV2; rw [cpN_s M 2 1 i (by decide)]) ?_
      exact ih (i + 1) (by omega) (by omega)
  refine j_bs (Bs' := [moB Y mo (setC M 2 (cpN (M 1) (M 2) 0))]) (by rw [cpN_0 M 2 1]) ?_
  refine j_lvm (lv' := [(1, .int (nI 0)), (0, .ref (mo 0))]) (by intro z hz; simp only [List.mem_cons, List.not_mem_nil, or_false] at hz ⊢; rcases hz with rfl | rfl <;> simp) ?_
  exact lp1 (719 - 0) 0 (by omega) (Nat.le_refl _)
def C8_takeBack (M : Nat → Nat → Int32)  : Nat → Nat → Int32 :=
  let V1 := setC M 1 (cpN (M 2) (M 1) 719)
  V1
set_option maxHeartbeats 4000000 in
set_option maxRecDepth 100000 in
theorem c_X8_takeBack (l : Launch) (D : va_G) (Y : Nat → ClassId) (mo : Nat → Nat) (M : Nat → Nat → Int32)   : CtV l yX8_takeBack wsX8_takeBack 0 0 D (tyL Y) ([moB Y mo M]) [.ref (mo 0)] ([moB Y mo (C8_takeBack M )]) := by
  refine CtV.intro (own := RX8) (cc := cX8_takeBack) (maxL := 2) rfl (by decide +kernel) rfl (Nat.le_of_ble_eq_true rfl) (fun p e s m args below meth c A Q hA hQ cx hr => ?_)
  have hinX8 : ∀ w ∈ wsX80, w ∈ wsX8_takeBack := by decide +kernel
  have f7 : Cond.fieldLink RX8 7 "FourPhasesModel" "state" "[I" ∈ wsX8_takeBack := by decide +kernel
  have f13 : Cond.fieldLink RX8 13 "FourPhasesModel" "spare" "[I" ∈ wsX8_takeBack := by decide +kernel
  refine j_iconst cx (pc := 0) (v := (nI 0)) dX8_takeBack_0 (by decide) ?_
  refine j_istore_n cx (pc := 1) (lv' := [(1, .int (nI 0)), (0, .ref (mo 0))]) dX8_takeBack_1 (by decide) rfl ?_
  have lp1 : ∀ (n i : Nat), i + n = 719 → 0 ≤ i → J p l e { frames := 0, cells := 0, slots := 0, locals := 0 } s m args below meth c 2 D A 0 0 Q ([moB Y mo (setC M 1 (cpN (M 2) (M 1) i))]) 2 [(1, .int (nI i)), (0, .ref (mo 0))] [] := by
    intro n
    induction n with
    | zero =>
      intro i hi h0
      have hi2 : i = 719 := by omega
      subst hi2
      obtain ⟨V1, hV1⟩ : ∃ z, z = setC M 1 (cpN (M 2) (M 1) 719) := ⟨_, rfl⟩
      refine j_bs (Bs' := [moB Y mo V1]) (by rw [hV1]) ?_
      refine j_iload_n cx (pc := 2) dX8_takeBack_2 0 rfl ?_
      refine j_sipush cx (pc := 3) (v := (nI 719)) dX8_takeBack_3 (by decide) ?_
      refine j_icmpN_ge cx (pc := 6) (by decide) (by decide) (tgt := 27) dX8_takeBack_6 (by decide) (fun c6_2 => ?_) (fun c6_2 => by exfalso; revert c6_2; decide)
      subst hQ; exact j_vret cx hr (by subst hV1; rfl) hA dX8_takeBack_27
    | succ n ih =>
      intro i hi h0
      obtain ⟨V2, hV2⟩ : ∃ z, z = setC M 1 (cpN (M 2) (M 1) i) := ⟨_, rfl⟩
      refine j_bs (Bs' := [moB Y mo V2]) (by rw [hV2]) ?_
      refine j_iload_n cx (pc := 2) dX8_takeBack_2 0 rfl ?_
      refine j_sipush cx (pc := 3) (v := (nI 719)) dX8_takeBack_3 (by decide) ?_
      refine j_icmpN_ge cx (pc := 6) (by omega) (by decide) (tgt := 27) dX8_takeBack_6 (by decide) (fun c6_3 => by exfalso; omega) (fun c6_3 => ?_)
      refine j_aload_n cx (pc := 9) dX8_takeBack_9 1 rfl ?_
      refine j_get cx (pc := 10) 0 0 rfl rfl (C := RX8) (T := TX8) (N := 12) rfl hinX8 0 (by decide) f7 rfl (v := .ref (mo 1)) rfl dX8_takeBack_10 ?_
      refine j_iload_n cx (pc := 13) dX8_takeBack_13 0 rfl ?_
      refine j_aload_n cx (pc := 14) dX8_takeBack_14 1 rfl ?_
      refine j_get cx (pc := 15) 0 0 rfl rfl (C := RX8) (T := TX8) (N := 12) rfl hinX8 1 (by decide) f13 rfl (v := .ref (mo 2)) rfl dX8_takeBack_15 ?_
      refine j_iload_n cx (pc := 18) dX8_takeBack_18 0 rfl ?_
      refine j_iald cx (pc := 19) 0 2 0 rfl rfl rfl (by omega) (by decide) dX8_takeBack_19 ?_
      obtain ⟨V3, hV3⟩ : ∃ z, z = up1 V2 1 i (V2 2 i) := ⟨_, rfl⟩
      refine j_iast cx (pc := 20) 0 1 0 rfl rfl rfl (by omega) (by decide) (Bs' := [moB Y mo V3]) (by rw [hV3]; rfl) dX8_takeBack_20 ?_
      refine j_iinc cx (pc := 21) (v := (nI (i + 1))) (lv' := [(1, .int (nI (i + 1))), (0, .ref (mo 0))]) dX8_takeBack_21 0 rfl (show nI i + nI 1 = nI (i + 1) from nI_add _ _) (by decide) rfl ?_
      refine j_goto cx (pc := 24) (tgt := 2) dX8_takeBack_24 (by decide) ?_
      refine j_lvm (lv' := [(1, .int (nI (i + 1))), (0, .ref (mo 0))]) (by intro z hz; simp only [List.mem_cons, List.not_mem_nil, or_false] at hz ⊢; rcases hz with rfl | rfl <;> simp) ?_
      refine j_bs (Bs' := [moB Y mo (setC M 1 (cpN (M 2) (M 1) (i + 1)))]) (by subst hV3; subst hV2; rw [cpN_s M 1 2 i (by decide)]) ?_
      exact ih (i + 1) (by omega) (by omega)
  refine j_bs (Bs' := [moB Y mo (setC M 1 (cpN (M 2) (M 1) 0))]) (by rw [cpN_0 M 1 2]) ?_
  refine j_lvm (lv' := [(1, .int (nI 0)), (0, .ref (mo 0))]) (by intro z hz; simp only [List.mem_cons, List.not_mem_nil, or_false] at hz ⊢; rcases hz with rfl | rfl <;> simp) ?_
  exact lp1 (719 - 0) 0 (by omega) (Nat.le_refl _)
def C8_push (M : Nat → Nat → Int32)  : Nat → Nat → Int32 :=
  if (M 0 0) = (nI 4) then
    let V5 := setC M 3 (sh7 (M 3) 2157)
    let V6 := up1 V5 0 0 ((V5 0 0) - (nI 1))
    let V7 := setC V6 3 (ptN (V6 3) 2157 (V6 2) 719)
    let V8 := up1 V7 0 0 ((V7 0 0) + (nI 1))
    V8
  else
    let V1 := setC M 3 (ptN (M 3) ((tN (M 0 0)) * 719) (M 2) 719)
    let V2 := up1 V1 0 0 ((V1 0 0) + (nI 1))
    V2
set_option maxHeartbeats 4000000 in
set_option maxRecDepth 100000 in
theorem c_X8_push (l : Launch) (D : va_G) (Y : Nat → ClassId) (mo : Nat → Nat) (M : Nat → Nat → Int32)  (hs : vp_in (M 0 0) 5) : CtV l yX8_push wsX8_push 0 0 D (tyL Y) ([moB Y mo M]) [.ref (mo 0)] ([moB Y mo (C8_push M )]) := by
  refine CtV.intro (own := RX8) (cc := cX8_push) (maxL := 2) rfl (by decide +kernel) rfl (Nat.le_of_ble_eq_true rfl) (fun p e s m args below meth c A Q hA hQ cx hr => ?_)
  have hinX8 : ∀ w ∈ wsX80, w ∈ wsX8_push := by decide +kernel
  have f13 : Cond.fieldLink RX8 13 "FourPhasesModel" "spare" "[I" ∈ wsX8_push := by decide +kernel
  have f16 : Cond.fieldLink RX8 16 "FourPhasesModel" "history" "[I" ∈ wsX8_push := by decide +kernel
  have f33 : Cond.fieldLink RX8 33 "FourPhasesModel" "states" "I" ∈ wsX8_push := by decide +kernel
  refine j_aload_n cx (pc := 0) dX8_push_0 0 rfl ?_
  refine j_get cx (pc := 1) 0 0 rfl rfl (C := RX8) (T := TX8) (N := 12) rfl hinX8 3 (by decide) f33 rfl (v := .int (M 0 0)) rfl dX8_push_1 ?_
  refine j_iconst cx (pc := 4) (v := (nI 4)) dX8_push_4 (by decide) ?_
  refine j_icmp_ne cx (pc := 5) (tgt := 49) dX8_push_5 (by decide) (fun c5_1 => ?_) (fun c5_1 => ?_)
  · skip
    have hs4 : tN (M 0 0) < 4 := by have := inL hs; have e := inN hs; rcases Nat.lt_or_ge (tN (M 0 0)) 4 with q | q; exact q; exact absurd (by rw [e, show tN (M 0 0) = 4 by omega]) c5_1
    refine j_iconst cx (pc := 49) (v := (nI 0)) dX8_push_49 (by decide) ?_
    refine j_istore_n cx (pc := 50) (lv' := [(1, .int (nI 0)), (0, .ref (mo 0))]) dX8_push_50 (by decide) rfl ?_
    have lp2 : ∀ (n i : Nat), i + n = 719 → 0 ≤ i → J p l e { frames := 0, cells := 0, slots := 0, locals := 0 } s m args below meth c 2 D A 0 0 Q ([moB Y mo (setC M 3 (ptN (M 3) ((tN (M 0 0)) * 719) (M 2) i))]) 51 [(1, .int (nI i)), (0, .ref (mo 0))] [] := by
      intro n
      induction n with
      | zero =>
        intro i hi h0
        have hi2 : i = 719 := by omega
        subst hi2
        obtain ⟨V1, hV1⟩ : ∃ z, z = setC M 3 (ptN (M 3) ((tN (M 0 0)) * 719) (M 2) 719) := ⟨_, rfl⟩
        refine j_bs (Bs' := [moB Y mo V1]) (by rw [hV1]) ?_
        refine j_iload_n cx (pc := 51) dX8_push_51 0 rfl ?_
        refine j_sipush cx (pc := 52) (v := (nI 719)) dX8_push_52 (by decide) ?_
        refine j_icmpN_ge cx (pc := 55) (by decide) (by decide) (tgt := 85) dX8_push_55 (by decide) (fun c55_3 => ?_) (fun c55_3 => by exfalso; revert c55_3; decide)
        refine j_aload_n cx (pc := 85) dX8_push_85 1 rfl ?_
        refine j_dup cx (pc := 86) dX8_push_86 rfl ?_
        refine j_get cx (pc := 87) 0 0 rfl rfl (C := RX8) (T := TX8) (N := 12) rfl hinX8 3 (by decide) f33 rfl (v := .int (V1 0 0)) rfl dX8_push_87 ?_
        refine j_iconst cx (pc := 90) (v := (nI 1)) dX8_push_90 (by decide) ?_
        refine j_iadd cx (pc := 91) dX8_push_91 ?_
        obtain ⟨V2, hV2⟩ : ∃ z, z = up1 V1 0 0 ((V1 0 0) + (nI 1)) := ⟨_, rfl⟩
        refine j_put cx (pc := 92) 0 0 rfl rfl (C := RX8) (T := TX8) (N := 12) rfl hinX8 tyX8 tyX8_ok nmX8 3 (by decide) f33 rfl rfl rfl rfl (Nat.le_of_ble_eq_true rfl) (Bs' := [moB Y mo V2]) (by rw [hV2]; rfl) dX8_push_92 ?_
        subst hQ; exact j_vret cx hr (by subst hV2; subst hV1; simp only [C8_push, if_neg c5_1]) hA dX8_push_95
      | succ n ih =>
        intro i hi h0
        obtain ⟨V3, hV3⟩ : ∃ z, z = setC M 3 (ptN (M 3) ((tN (M 0 0)) * 719) (M 2) i) := ⟨_, rfl⟩
        refine j_bs (Bs' := [moB Y mo V3]) (by rw [hV3]) ?_
        refine j_iload_n cx (pc := 51) dX8_push_51 0 rfl ?_
        refine j_sipush cx (pc := 52) (v := (nI 719)) dX8_push_52 (by decide) ?_
        refine j_icmpN_ge cx (pc := 55) (by omega) (by decide) (tgt := 85) dX8_push_55 (by decide) (fun c55_4 => by exfalso; omega) (fun c55_4 => ?_)
        refine j_aload_n cx (pc := 58) dX8_push_58 1 rfl ?_
        refine j_get cx (pc := 59) 0 0 rfl rfl (C := RX8) (T := TX8) (N := 12) rfl hinX8 2 (by decide) f16 rfl (v := .ref (mo 3)) rfl dX8_push_59 ?_
        refine j_aload_n cx (pc := 62) dX8_push_62 1 rfl ?_
        refine j_get cx (pc := 63) 0 0 rfl rfl (C := RX8) (T := TX8) (N := 12) rfl hinX8 3 (by decide) f33 rfl (v := .int (V3 0 0)) rfl dX8_push_63 ?_
        refine j_top (show (V3 0 0) = (nI (tN (M 0 0))) from (by rw [hV3]; exact inN hs)) ?_
        refine j_sipush cx (pc := 66) (v := (nI 719)) dX8_push_66 (by decide) ?_
        refine j_imulN cx (pc := 69) dX8_push_69 ?_
        refine j_iload_n cx (pc := 70) dX8_push_70 0 rfl ?_
        refine j_iaddN cx (pc := 71) dX8_push_71 ?_
        refine j_aload_n cx (pc := 72) dX8_push_72 1 rfl ?_
        refine j_get cx (pc := 73) 0 0 rfl rfl (C := RX8) (T := TX8) (N := 12) rfl hinX8 1 (by decide) f13 rfl (v := .ref (mo 2)) rfl dX8_push_73 ?_
        refine j_iload_n cx (pc := 76) dX8_push_76 0 rfl ?_
        refine j_iald cx (pc := 77) 0 2 0 rfl rfl rfl (by omega) (by decide) dX8_push_77 ?_
        obtain ⟨V4, hV4⟩ : ∃ z, z = up1 V3 3 (((tN (M 0 0)) * 719) + i) (V3 2 i) := ⟨_, rfl⟩
        refine j_iast cx (pc := 78) 0 3 0 rfl rfl rfl (by omega) (by decide) (Bs' := [moB Y mo V4]) (by rw [hV4]; rfl) dX8_push_78 ?_
        refine j_iinc cx (pc := 79) (v := (nI (i + 1))) (lv' := [(1, .int (nI (i + 1))), (0, .ref (mo 0))]) dX8_push_79 0 rfl (show nI i + nI 1 = nI (i + 1) from nI_add _ _) (by decide) rfl ?_
        refine j_goto cx (pc := 82) (tgt := 51) dX8_push_82 (by decide) ?_
        refine j_lvm (lv' := [(1, .int (nI (i + 1))), (0, .ref (mo 0))]) (by intro z hz; simp only [List.mem_cons, List.not_mem_nil, or_false] at hz ⊢; rcases hz with rfl | rfl <;> simp) ?_
        refine j_bs (Bs' := [moB Y mo (setC M 3 (ptN (M 3) ((tN (M 0 0)) * 719) (M 2) (i + 1)))]) (by subst hV4; subst hV3; rw [ptN_s M 3 2 ((tN (M 0 0)) * 719) i (by decide)]) ?_
        exact ih (i + 1) (by omega) (by omega)
    refine j_bs (Bs' := [moB Y mo (setC M 3 (ptN (M 3) ((tN (M 0 0)) * 719) (M 2) 0))]) (by rw [ptN_0 M 3 2 ((tN (M 0 0)) * 719)]) ?_
    refine j_lvm (lv' := [(1, .int (nI 0)), (0, .ref (mo 0))]) (by intro z hz; simp only [List.mem_cons, List.not_mem_nil, or_false] at hz ⊢; rcases hz with rfl | rfl <;> simp) ?_
    exact lp2 (719 - 0) 0 (by omega) (Nat.le_refl _)
  · skip
    refine j_iconst cx (pc := 8) (v := (nI 0)) dX8_push_8 (by decide) ?_
    refine j_istore_n cx (pc := 9) (lv' := [(1, .int (nI 0)), (0, .ref (mo 0))]) dX8_push_9 (by decide) rfl ?_
    have lp5 : ∀ (n i : Nat), i + n = 2157 → 0 ≤ i → J p l e { frames := 0, cells := 0, slots := 0, locals := 0 } s m args below meth c 2 D A 0 0 Q ([moB Y mo (setC M 3 (sh7 (M 3) i))]) 10 [(1, .int (nI i)), (0, .ref (mo 0))] [] := by
      intro n
      induction n with
      | zero =>
        intro i hi h0
        have hi2 : i = 2157 := by omega
        subst hi2
        obtain ⟨V5, hV5⟩ : ∃ z, z = setC M 3 (sh7 (M 3) 2157) := ⟨_, rfl⟩
        refine j_bs (Bs' := [moB Y mo V5]) (by rw [hV5]) ?_
        refine j_iload_n cx (pc := 10) dX8_push_10 0 rfl ?_
        refine j_sipush cx (pc := 11) (v := (nI 2157)) dX8_push_11 (by decide) ?_
        refine j_icmpN_ge cx (pc := 14) (by decide) (by decide) (tgt := 39) dX8_push_14 (by decide) (fun c14_6 => ?_) (fun c14_6 => by exfalso; revert c14_6; decide)
        refine j_aload_n cx (pc := 39) dX8_push_39 1 rfl ?_
        refine j_dup cx (pc := 40) dX8_push_40 rfl ?_
        refine j_get cx (pc := 41) 0 0 rfl rfl (C := RX8) (T := TX8) (N := 12) rfl hinX8 3 (by decide) f33 rfl (v := .int (V5 0 0)) rfl dX8_push_41 ?_
        refine j_iconst cx (pc := 44) (v := (nI 1)) dX8_push_44 (by decide) ?_
        refine j_isub cx (pc := 45) dX8_push_45 ?_
        obtain ⟨V6, hV6⟩ : ∃ z, z = up1 V5 0 0 ((V5 0 0) - (nI 1)) := ⟨_, rfl⟩
        refine j_put cx (pc := 46) 0 0 rfl rfl (C := RX8) (T := TX8) (N := 12) rfl hinX8 tyX8 tyX8_ok nmX8 3 (by decide) f33 rfl rfl rfl rfl (Nat.le_of_ble_eq_true rfl) (Bs' := [moB Y mo V6]) (by rw [hV6]; rfl) dX8_push_46 ?_
        refine j_iconst cx (pc := 49) (v := (nI 0)) dX8_push_49 (by decide) ?_
        refine j_istore_n cx (pc := 50) (lv' := [(1, .int (nI 0)), (0, .ref (mo 0))]) dX8_push_50 (by decide) rfl ?_
        have lp7 : ∀ (n i : Nat), i + n = 719 → 0 ≤ i → J p l e { frames := 0, cells := 0, slots := 0, locals := 0 } s m args below meth c 2 D A 0 0 Q ([moB Y mo (setC V6 3 (ptN (V6 3) 2157 (V6 2) i))]) 51 [(1, .int (nI i)), (0, .ref (mo 0))] [] := by
          intro n
          induction n with
          | zero =>
            intro i hi h0
            have hi2 : i = 719 := by omega
            subst hi2
            obtain ⟨V7, hV7⟩ : ∃ z, z = setC V6 3 (ptN (V6 3) 2157 (V6 2) 719) := ⟨_, rfl⟩
            refine j_bs (Bs' := [moB Y mo V7]) (by rw [hV7]) ?_
            refine j_iload_n cx (pc := 51) dX8_push_51 0 rfl ?_
            refine j_sipush cx (pc := 52) (v := (nI 719)) dX8_push_52 (by decide) ?_
            refine j_icmpN_ge cx (pc := 55) (by decide) (by decide) (tgt := 85) dX8_push_55 (by decide) (fun c55_8 => ?_) (fun c55_8 => by exfalso; revert c55_8; decide)
            refine j_aload_n cx (pc := 85) dX8_push_85 1 rfl ?_
            refine j_dup cx (pc := 86) dX8_push_86 rfl ?_
            refine j_get cx (pc := 87) 0 0 rfl rfl (C := RX8) (T := TX8) (N := 12) rfl hinX8 3 (by decide) f33 rfl (v := .int (V7 0 0)) rfl dX8_push_87 ?_
            refine j_iconst cx (pc := 90) (v := (nI 1)) dX8_push_90 (by decide) ?_
            refine j_iadd cx (pc := 91) dX8_push_91 ?_
            obtain ⟨V8, hV8⟩ : ∃ z, z = up1 V7 0 0 ((V7 0 0) + (nI 1)) := ⟨_, rfl⟩
            refine j_put cx (pc := 92) 0 0 rfl rfl (C := RX8) (T := TX8) (N := 12) rfl hinX8 tyX8 tyX8_ok nmX8 3 (by decide) f33 rfl rfl rfl rfl (Nat.le_of_ble_eq_true rfl) (Bs' := [moB Y mo V8]) (by rw [hV8]; rfl) dX8_push_92 ?_
            subst hQ; exact j_vret cx hr (by subst hV8; subst hV7; subst hV6; subst hV5; simp only [C8_push, if_pos c5_1]) hA dX8_push_95
          | succ n ih =>
            intro i hi h0
            obtain ⟨V9, hV9⟩ : ∃ z, z = setC V6 3 (ptN (V6 3) 2157 (V6 2) i) := ⟨_, rfl⟩
            refine j_bs (Bs' := [moB Y mo V9]) (by rw [hV9]) ?_
            refine j_iload_n cx (pc := 51) dX8_push_51 0 rfl ?_
            refine j_sipush cx (pc := 52) (v := (nI 719)) dX8_push_52 (by decide) ?_
            refine j_icmpN_ge cx (pc := 55) (by omega) (by decide) (tgt := 85) dX8_push_55 (by decide) (fun c55_9 => by exfalso; omega) (fun c55_9 => ?_)
            refine j_aload_n cx (pc := 58) dX8_push_58 1 rfl ?_
            refine j_get cx (pc := 59) 0 0 rfl rfl (C := RX8) (T := TX8) (N := 12) rfl hinX8 2 (by decide) f16 rfl (v := .ref (mo 3)) rfl dX8_push_59 ?_
            refine j_aload_n cx (pc := 62) dX8_push_62 1 rfl ?_
            refine j_get cx (pc := 63) 0 0 rfl rfl (C := RX8) (T := TX8) (N := 12) rfl hinX8 3 (by decide) f33 rfl (v := .int (V9 0 0)) rfl dX8_push_63 ?_
            refine j_top (show (V9 0 0) = (nI 3) from (by rw [hV9]; rw [hV6]; rw [hV5]; show M 0 0 - nI 1 = nI 3; rw [c5_1]; rfl)) ?_
            refine j_sipush cx (pc := 66) (v := (nI 719)) dX8_push_66 (by decide) ?_
            refine j_imulN cx (pc := 69) dX8_push_69 ?_
            refine j_top (show nI (3 * 719) = nI 2157 from rfl) ?_
            refine j_iload_n cx (pc := 70) dX8_push_70 0 rfl ?_
            refine j_iaddN cx (pc := 71) dX8_push_71 ?_
            refine j_aload_n cx (pc := 72) dX8_push_72 1 rfl ?_
            refine j_get cx (pc := 73) 0 0 rfl rfl (C := RX8) (T := TX8) (N := 12) rfl hinX8 1 (by decide) f13 rfl (v := .ref (mo 2)) rfl dX8_push_73 ?_
            refine j_iload_n cx (pc := 76) dX8_push_76 0 rfl ?_
            refine j_iald cx (pc := 77) 0 2 0 rfl rfl rfl (by omega) (by decide) dX8_push_77 ?_
            obtain ⟨V10, hV10⟩ : ∃ z, z = up1 V9 3 (2157 + i) (V9 2 i) := ⟨_, rfl⟩
            refine j_iast cx (pc := 78) 0 3 0 rfl rfl rfl (by omega) (by decide) (Bs' := [moB Y mo V10]) (by rw [hV10]; rfl) dX8_push_78 ?_
            refine j_iinc cx (pc := 79) (v := (nI (i + 1))) (lv' := [(1, .int (nI (i + 1))), (0, .ref (mo 0))]) dX8_push_79 0 rfl (show nI i + nI 1 = nI (i + 1) from nI_add _ _) (by decide) rfl ?_
            refine j_goto cx (pc := 82) (tgt := 51) dX8_push_82 (by decide) ?_
            refine j_lvm (lv' := [(1, .int (nI (i + 1))), (0, .ref (mo 0))]) (by intro z hz; simp only [List.mem_cons, List.not_mem_nil, or_false] at hz ⊢; rcases hz with rfl | rfl <;> simp) ?_
            refine j_bs (Bs' := [moB Y mo (setC V6 3 (ptN (V6 3) 2157 (V6 2) (i + 1)))]) (by subst hV10; subst hV9; rw [ptN_s V6 3 2 2157 i (by decide)]) ?_
            exact ih (i + 1) (by omega) (by omega)
        refine j_bs (Bs' := [moB Y mo (setC V6 3 (ptN (V6 3) 2157 (V6 2) 0))]) (by rw [ptN_0 V6 3 2 2157]) ?_
        refine j_lvm (lv' := [(1, .int (nI 0)), (0, .ref (mo 0))]) (by intro z hz; simp only [List.mem_cons, List.not_mem_nil, or_false] at hz ⊢; rcases hz with rfl | rfl <;> simp) ?_
        exact lp7 (719 - 0) 0 (by omega) (Nat.le_refl _)
      | succ n ih =>
        intro i hi h0
        obtain ⟨V11, hV11⟩ : ∃ z, z = setC M 3 (sh7 (M 3) i) := ⟨_, rfl⟩
        refine j_bs (Bs' := [moB Y mo V11]) (by rw [hV11]) ?_
        refine j_iload_n cx (pc := 10) dX8_push_10 0 rfl ?_
        refine j_sipush cx (pc := 11) (v := (nI 2157)) dX8_push_11 (by decide) ?_
        refine j_icmpN_ge cx (pc := 14) (by omega) (by decide) (tgt := 39) dX8_push_14 (by decide) (fun c14_10 => by exfalso; omega) (fun c14_10 => ?_)
        refine j_aload_n cx (pc := 17) dX8_push_17 1 rfl ?_
        refine j_get cx (pc := 18) 0 0 rfl rfl (C := RX8) (T := TX8) (N := 12) rfl hinX8 2 (by decide) f16 rfl (v := .ref (mo 3)) rfl dX8_push_18 ?_
        refine j_iload_n cx (pc := 21) dX8_push_21 0 rfl ?_
        refine j_aload_n cx (pc := 22) dX8_push_22 1 rfl ?_
        refine j_get cx (pc := 23) 0 0 rfl rfl (C := RX8) (T := TX8) (N := 12) rfl hinX8 2 (by decide) f16 rfl (v := .ref (mo 3)) rfl dX8_push_23 ?_
        refine j_iload_n cx (pc := 26) dX8_push_26 0 rfl ?_
        refine j_sipush cx (pc := 27) (v := (nI 719)) dX8_push_27 (by decide) ?_
        refine j_iaddN cx (pc := 30) dX8_push_30 ?_
        refine j_iald cx (pc := 31) 0 3 0 rfl rfl rfl (by omega) (by decide) dX8_push_31 ?_
        obtain ⟨V12, hV12⟩ : ∃ z, z = up1 V11 3 i (V11 3 (i + 719)) := ⟨_, rfl⟩
        refine j_iast cx (pc := 32) 0 3 0 rfl rfl rfl (by omega) (by decide) (Bs' := [moB Y mo V12]) (by rw [hV12]; rfl) dX8_push_32 ?_
        refine j_iinc cx (pc := 33) (v := (nI (i + 1))) (lv' := [(1, .int (nI (i + 1))), (0, .ref (mo 0))]) dX8_push_33 0 rfl (show nI i + nI 1 = nI (i + 1) from nI_add _ _) (by decide) rfl ?_
        refine j_goto cx (pc := 36) (tgt := 10) dX8_push_36 (by decide) ?_
        refine j_lvm (lv' := [(1, .int (nI (i + 1))), (0, .ref (mo 0))]) (by intro z hz; simp only [List.mem_cons, List.not_mem_nil, or_false] at hz ⊢; rcases hz with rfl | rfl <;> simp) ?_
        refine j_bs (Bs' := [moB Y mo (setC M 3 (sh7 (M 3) (i + 1)))]) (by subst hV12; subst hV11; rw [sh7_s M 3 i]) ?_
        exact ih (i + 1) (by omega) (by omega)
    refine j_bs (Bs' := [moB Y mo (setC M 3 (sh7 (M 3) 0))]) (by rw [sh7_0 M 3]) ?_
    refine j_lvm (lv' := [(1, .int (nI 0)), (0, .ref (mo 0))]) (by intro z hz; simp only [List.mem_cons, List.not_mem_nil, or_false] at hz ⊢; rcases hz with rfl | rfl <;> simp) ?_
    exact lp5 (2157 - 0) 0 (by omega) (Nat.le_refl _)
def C8_record (M : Nat → Nat → Int32)  : Nat → Nat → Int32 :=
  let V1 := (C8_putAside M )
  let V2 := (C8_push V1 )
  V2
set_option maxHeartbeats 4000000 in
set_option maxRecDepth 100000 in
theorem c_X8_record (l : Launch) (D : va_G) (Y : Nat → ClassId) (mo : Nat → Nat) (M : Nat → Nat → Int32)  (hs : vp_in (M 0 0) 5) : CtV l yX8_record wsX8_record 1 21 D (tyL Y) ([moB Y mo M]) [.ref (mo 0)] ([moB Y mo (C8_record M )]) := by
  refine CtV.intro (own := RX8) (cc := cX8_record) (maxL := 1) rfl (by decide +kernel) rfl (Nat.le_of_ble_eq_true rfl) (fun p e s m args below meth c A Q hA hQ cx hr => ?_)
  refine j_aload_n cx (pc := 0) dX8_record_0 0 rfl ?_
  obtain ⟨V1, hV1⟩ : ∃ z, z = (C8_putAside M ) := ⟨_, rfl⟩
  refine j_callv cx (pc := 1) 0 (c_X8_putAside l D Y mo M  ) gX8_record_X8_putAside rfl (by decide +kernel) rfl ⟨Nat.le_of_ble_eq_true rfl, Nat.le_of_ble_eq_true rfl⟩ [0] rfl (by decide) (Bs' := [moB Y mo V1]) (by rw [hV1]; exact P1_mo M (C8_putAside M )) A1_mo 0 0 rfl rfl rfl rfl (Nat.le_of_ble_eq_true rfl) dX8_record_1 ⟨Nat.zero_le _, Nat.zero_le _⟩ ?_
  refine j_aload_n cx (pc := 4) dX8_record_4 0 rfl ?_
  obtain ⟨V2, hV2⟩ : ∃ z, z = (C8_push V1 ) := ⟨_, rfl⟩
  refine j_callv cx (pc := 5) 0 (c_X8_push l D Y mo V1  (by rw [hV1]; exact hs)) gX8_record_X8_push rfl (by decide +kernel) rfl ⟨Nat.le_of_ble_eq_true rfl, Nat.le_of_ble_eq_true rfl⟩ [0] rfl (by decide) (Bs' := [moB Y mo V2]) (by rw [hV2]; exact P1_mo V1 (C8_push V1 )) A1_mo 0 0 rfl rfl rfl rfl (Nat.le_of_ble_eq_true rfl) dX8_record_5 ⟨Nat.zero_le _, Nat.zero_le _⟩ ?_
  subst hQ; exact j_vret cx hr (by subst hV2; subst hV1; rfl) hA dX8_record_8
def C8_undo (M : Nat → Nat → Int32)  : Int32 × (Nat → Nat → Int32) :=
  if (M 0 0) = 0 then
    ((-5), M)
  else
    let V1 := up1 M 0 0 ((M 0 0) - (nI 1))
    let V2 := setC V1 1 (gtN (V1 1) (V1 3) ((tN (M 0 0) - 1) * 719) 719)
    ((V2 0 0), V2)
set_option maxHeartbeats 4000000 in
set_option maxRecDepth 100000 in
theorem c_X8_undo (l : Launch) (D : va_G) (Y : Nat → ClassId) (mo : Nat → Nat) (M : Nat → Nat → Int32)  (hs : vp_in (M 0 0) 5) : CtI l yX8_undo wsX8_undo 0 0 D (tyL Y) ([moB Y mo M]) [.ref (mo 0)] (C8_undo M ).1 ([moB Y mo (C8_undo M ).2]) := by
  refine CtI.intro (own := RX8) (cc := cX8_undo) (maxL := 2) rfl (by decide +kernel) rfl (Nat.le_of_ble_eq_true rfl) (fun p e s m args below meth c A Q hA hQ cx hr => ?_)
  have hinX8 : ∀ w ∈ wsX80, w ∈ wsX8_undo := by decide +kernel
  have f7 : Cond.fieldLink RX8 7 "FourPhasesModel" "state" "[I" ∈ wsX8_undo := by decide +kernel
  have f16 : Cond.fieldLink RX8 16 "FourPhasesModel" "history" "[I" ∈ wsX8_undo := by decide +kernel
  have f33 : Cond.fieldLink RX8 33 "FourPhasesModel" "states" "I" ∈ wsX8_undo := by decide +kernel
  refine j_aload_n cx (pc := 0) dX8_undo_0 0 rfl ?_
  refine j_get cx (pc := 1) 0 0 rfl rfl (C := RX8) (T := TX8) (N := 12) rfl hinX8 3 (by decide) f33 rfl (v := .int (M 0 0)) rfl dX8_undo_1 ?_
  refine j_if_ne cx (pc := 4) (tgt := 10) dX8_undo_4 (by decide) (fun c4_1 => ?_) (fun c4_1 => ?_)
  · skip
    have hs1 : 0 < tN (M 0 0) := by rcases Nat.eq_zero_or_pos (tN (M 0 0)) with q | q; exact absurd (by rw [inN hs, q]; rfl) c4_1; exact q
    have hs5 : tN (M 0 0) < 5 := inL hs
    refine j_aload_n cx (pc := 10) dX8_undo_10 0 rfl ?_
    refine j_dup cx (pc := 11) dX8_undo_11 rfl ?_
    refine j_get cx (pc := 12) 0 0 rfl rfl (C := RX8) (T := TX8) (N := 12) rfl hinX8 3 (by decide) f33 rfl (v := .int (M 0 0)) rfl dX8_undo_12 ?_
    refine j_iconst cx (pc := 15) (v := (nI 1)) dX8_undo_15 (by decide) ?_
    refine j_isub cx (pc := 16) dX8_undo_16 ?_
    obtain ⟨V1, hV1⟩ : ∃ z, z = up1 M 0 0 ((M 0 0) - (nI 1)) := ⟨_, rfl⟩
    refine j_put cx (pc := 17) 0 0 rfl rfl (C := RX8) (T := TX8) (N := 12) rfl hinX8 tyX8 tyX8_ok nmX8 3 (by decide) f33 rfl rfl rfl rfl (Nat.le_of_ble_eq_true rfl) (Bs' := [moB Y mo V1]) (by rw [hV1]; rfl) dX8_undo_17 ?_
    refine j_iconst cx (pc := 20) (v := (nI 0)) dX8_undo_20 (by decide) ?_
    refine j_istore_n cx (pc := 21) (lv' := [(1, .int (nI 0)), (0, .ref (mo 0))]) dX8_undo_21 (by decide) rfl ?_
    have lp2 : ∀ (n i : Nat), i + n = 719 → 0 ≤ i → J p l e { frames := 0, cells := 0, slots := 0, locals := 0 } s m args below meth c 2 D A 0 0 Q ([moB Y mo (setC V1 1 (gtN (V1 1) (V1 3) ((tN (M 0 0) - 1) * 719) i))]) 22 [(1, .int (nI i)), (0, .ref (mo 0))] [] := by
      intro n
      induction n with
      | zero =>
        intro i hi h0
        have hi2 : i = 719 := by omega
        subst hi2
        obtain ⟨V2, hV2⟩ : ∃ z, z = setC V1 1 (gtN (V1 1) (V1 3) ((tN (M 0 0) - 1) * 719) 719) := ⟨_, rfl⟩
        refine j_bs (Bs' := [moB Y mo V2]) (by rw [hV2]) ?_
        refine j_iload_n cx (pc := 22) dX8_undo_22 0 rfl ?_
        refine j_sipush cx (pc := 23) (v := (nI 719)) dX8_undo_23 (by decide) ?_
        refine j_icmpN_ge cx (pc := 26) (by decide) (by decide) (tgt := 56) dX8_undo_26 (by decide) (fun c26_3 => ?_) (fun c26_3 => by exfalso; revert c26_3; decide)
        refine j_aload_n cx (pc := 56) dX8_undo_56 1 rfl ?_
        refine j_get cx (pc := 57) 0 0 rfl rfl (C := RX8) (T := TX8) (N := 12) rfl hinX8 3 (by decide) f33 rfl (v := .int (V2 0 0)) rfl dX8_undo_57 ?_
        subst hQ; exact j_iret cx hr (by subst hV2; subst hV1; simp only [C8_undo, if_neg c4_1]) (by subst hV2; subst hV1; simp only [C8_undo, if_neg c4_1]) hA dX8_undo_60
      | succ n ih =>
        intro i hi h0
        obtain ⟨V3, hV3⟩ : ∃ z, z = setC V1 1 (gtN (V1 1) (V1 3) ((tN (M 0 0) - 1) * 719) i) := ⟨_, rfl⟩
        refine j_bs (Bs' := [moB Y mo V3]) (by rw [hV3]) ?_
        refine j_iload_n cx (pc := 22) dX8_undo_22 0 rfl ?_
        refine j_sipush cx (pc := 23) (v := (nI 719)) dX8_undo_23 (by decide) ?_
        refine j_icmpN_ge cx (pc := 26) (by omega) (by decide) (tgt := 56) dX8_undo_26 (by decide) (fun c26_4 => by exfalso; omega) (fun c26_4 => ?_)
        refine j_aload_n cx (pc := 29) dX8_undo_29 1 rfl ?_
        refine j_get cx (pc := 30) 0 0 rfl rfl (C := RX8) (T := TX8) (N := 12) rfl hinX8 0 (by decide) f7 rfl (v := .ref (mo 1)) rfl dX8_undo_30 ?_
        refine j_iload_n cx (pc := 33) dX8_undo_33 0 rfl ?_
        refine j_aload_n cx (pc := 34) dX8_undo_34 1 rfl ?_
        refine j_get cx (pc := 35) 0 0 rfl rfl (C := RX8) (T := TX8) (N := 12) rfl hinX8 2 (by decide) f16 rfl (v := .ref (mo 3)) rfl dX8_undo_35 ?_
        refine j_aload_n cx (pc := 38) dX8_undo_38 1 rfl ?_
        refine j_get cx (pc := 39) 0 0 rfl rfl (C := RX8) (T := TX8) (N := 12) rfl hinX8 3 (by decide) f33 rfl (v := .int (V3 0 0)) rfl dX8_undo_39 ?_
        refine j_top (show (V3 0 0) = (nI (tN (M 0 0) - 1)) from (by rw [hV3]; rw [hV1]; show M 0 0 - nI 1 = _; rw [← pk_sub hs1, ← inN hs])) ?_
        refine j_sipush cx (pc := 42) (v := (nI 719)) dX8_undo_42 (by decide) ?_
        refine j_imulN cx (pc := 45) dX8_undo_45 ?_
        refine j_iload_n cx (pc := 46) dX8_undo_46 0 rfl ?_
        refine j_iaddN cx (pc := 47) dX8_undo_47 ?_
        refine j_iald cx (pc := 48) 0 3 0 rfl rfl rfl (by omega) (by decide) dX8_undo_48 ?_
        obtain ⟨V4, hV4⟩ : ∃ z, z = up1 V3 1 i (V3 3 (((tN (M 0 0) - 1) * 719) + i)) := ⟨_, rfl⟩
        refine j_iast cx (pc := 49) 0 1 0 rfl rfl rfl (by omega) (by decide) (Bs' := [moB Y mo V4]) (by rw [hV4]; rfl) dX8_undo_49 ?_
        refine j_iinc cx (pc := 50) (v := (nI (i + 1))) (lv' := [(1, .int (nI (i + 1))), (0, .ref (mo 0))]) dX8_undo_50 0 rfl (show nI i + nI 1 = nI (i + 1) from nI_add _ _) (by decide) rfl ?_
        refine j_goto cx (pc := 53) (tgt := 22) dX8_undo_53 (by decide) ?_
        refine j_lvm (lv' := [(1, .int (nI (i + 1))), (0, .ref (mo 0))]) (by intro z hz; simp only [List.mem_cons, List.not_mem_nil, or_false] at hz ⊢; rcases hz with rfl | rfl <;> simp) ?_
        refine j_bs (Bs' := [moB Y mo (setC V1 1 (gtN (V1 1) (V1 3) ((tN (M 0 0) - 1) * 719) (i + 1)))]) (by subst hV4; subst hV3; rw [gtN_s V1 1 3 _ i (by decide)]) ?_
        exact ih (i + 1) (by omega) (by omega)
    refine j_bs (Bs' := [moB Y mo (setC V1 1 (gtN (V1 1) (V1 3) ((tN (M 0 0) - 1) * 719) 0))]) (by rw [gtN_0 V1 1 3 _]) ?_
    refine j_lvm (lv' := [(1, .int (nI 0)), (0, .ref (mo 0))]) (by intro z hz; simp only [List.mem_cons, List.not_mem_nil, or_false] at hz ⊢; rcases hz with rfl | rfl <;> simp) ?_
    exact lp2 (719 - 0) 0 (by omega) (Nat.le_refl _)
  · skip
    refine j_bipush cx (pc := 7) (v := (-5)) dX8_undo_7 (by decide) ?_
    subst hQ; exact j_iret cx hr (by simp only [C8_undo, if_pos c4_1]) (by simp only [C8_undo, if_pos c4_1]) hA dX8_undo_9
def C8_keep (M : Nat → Nat → Int32)  : Int32 × (Nat → Nat → Int32) :=
  let V1 := setC M 4 (cpN (M 1) (M 4) 719)
  let V2 := up1 V1 0 1 (nI 1)
  ((V2 1 4), V2)
set_option maxHeartbeats 4000000 in
set_option maxRecDepth 100000 in
theorem c_X8_keep (l : Launch) (D : va_G) (Y : Nat → ClassId) (mo : Nat → Nat) (M : Nat → Nat → Int32)   : CtI l yX8_keep wsX8_keep 0 0 D (tyL Y) ([moB Y mo M]) [.ref (mo 0)] (C8_keep M ).1 ([moB Y mo (C8_keep M ).2]) := by
  refine CtI.intro (own := RX8) (cc := cX8_keep) (maxL := 2) rfl (by decide +kernel) rfl (Nat.le_of_ble_eq_true rfl) (fun p e s m args below meth c A Q hA hQ cx hr => ?_)
  have hinX8 : ∀ w ∈ wsX80, w ∈ wsX8_keep := by decide +kernel
  have f7 : Cond.fieldLink RX8 7 "FourPhasesModel" "state" "[I" ∈ wsX8_keep := by decide +kernel
  have f19 : Cond.fieldLink RX8 19 "FourPhasesModel" "snapshot" "[I" ∈ wsX8_keep := by decide +kernel
  have f43 : Cond.fieldLink RX8 43 "FourPhasesModel" "hasSnapshot" "Z" ∈ wsX8_keep := by decide +kernel
  refine j_iconst cx (pc := 0) (v := (nI 0)) dX8_keep_0 (by decide) ?_
  refine j_istore_n cx (pc := 1) (lv' := [(1, .int (nI 0)), (0, .ref (mo 0))]) dX8_keep_1 (by decide) rfl ?_
  have lp1 : ∀ (n i : Nat), i + n = 719 → 0 ≤ i → J p l e { frames := 0, cells := 0, slots := 0, locals := 0 } s m args below meth c 2 D A 0 0 Q ([moB Y mo (setC M 4 (cpN (M 1) (M 4) i))]) 2 [(1, .int (nI i)), (0, .ref (mo 0))] [] := by
    intro n
    induction n with
    | zero =>
      intro i hi h0
      have hi2 : i = 719 := by omega
      subst hi2
      obtain ⟨V1, hV1⟩ : ∃ z, z = setC M 4 (cpN (M 1) (M 4) 719) := ⟨_, rfl⟩
      refine j_bs (Bs' := [moB Y mo V1]) (by rw [hV1]) ?_
      refine j_iload_n cx (pc := 2) dX8_keep_2 0 rfl ?_
      refine j_sipush cx (pc := 3) (v := (nI 719)) dX8_keep_3 (by decide) ?_
      refine j_icmpN_ge cx (pc := 6) (by decide) (by decide) (tgt := 27) dX8_keep_6 (by decide) (fun c6_2 => ?_) (fun c6_2 => by exfalso; revert c6_2; decide)
      refine j_aload_n cx (pc := 27) dX8_keep_27 1 rfl ?_
      refine j_iconst cx (pc := 28) (v := (nI 1)) dX8_keep_28 (by decide) ?_
      obtain ⟨V2, hV2⟩ : ∃ z, z = up1 V1 0 1 (nI 1) := ⟨_, rfl⟩
      refine j_put cx (pc := 29) 0 0 rfl rfl (C := RX8) (T := TX8) (N := 12) rfl hinX8 tyX8 tyX8_ok nmX8 5 (by decide) f43 rfl rfl rfl rfl (Nat.le_of_ble_eq_true rfl) (Bs' := [moB Y mo V2]) (by rw [hV2]; rfl) dX8_keep_29 ?_
      refine j_aload_n cx (pc := 32) dX8_keep_32 1 rfl ?_
      refine j_get cx (pc := 33) 0 0 rfl rfl (C := RX8) (T := TX8) (N := 12) rfl hinX8 0 (by decide) f7 rfl (v := .ref (mo 1)) rfl dX8_keep_33 ?_
      refine j_iconst cx (pc := 36) (v := (nI 4)) dX8_keep_36 (by decide) ?_
      refine j_iald cx (pc := 37) 0 1 0 rfl rfl rfl (by decide) (by decide) dX8_keep_37 ?_
      subst hQ; exact j_iret cx hr (by subst hV2; subst hV1; rfl) (by subst hV2; subst hV1; rfl) hA dX8_keep_38
    | succ n ih =>
      intro i hi h0
      obtain ⟨V3, hV3⟩ : ∃ z, z = setC M 4 (cpN (M 1) (M 4) i) := ⟨_, rfl⟩
      refine j_bs (Bs' := [moB Y mo V3]) (by rw [hV3]) ?_
      refine j_iload_n cx (pc := 2) dX8_keep_2 0 rfl ?_
      refine j_sipush cx (pc := 3) (v := (nI 719)) dX8_keep_3 (by decide) ?_
      refine j_icmpN_ge cx (pc := 6) (by omega) (by decide) (tgt := 27) dX8_keep_6 (by decide) (fun c6_3 => by exfalso; omega) (fun c6_3 => ?_)
      refine j_aload_n cx (pc := 9) dX8_keep_9 1 rfl ?_
      refine j_get cx (pc := 10) 0 0 rfl rfl (C := RX8) (T := TX8) (N := 12) rfl hinX8 4 (by decide) f19 rfl (v := .ref (mo 4)) rfl dX8_keep_10 ?_
      refine j_iload_n cx (pc := 13) dX8_keep_13 0 rfl ?_
      refine j_aload_n cx (pc := 14) dX8_keep_14 1 rfl ?_
      refine j_get cx (pc := 15) 0 0 rfl rfl (C := RX8) (T := TX8) (N := 12) rfl hinX8 0 (by decide) f7 rfl (v := .ref (mo 1)) rfl dX8_keep_15 ?_
      refine j_iload_n cx (pc := 18) dX8_keep_18 0 rfl ?_
      refine j_iald cx (pc := 19) 0 1 0 rfl rfl rfl (by omega) (by decide) dX8_keep_19 ?_
      obtain ⟨V4, hV4⟩ : ∃ z, z = up1 V3 4 i (V3 1 i) := ⟨_, rfl⟩
      refine j_iast cx (pc := 20) 0 4 0 rfl rfl rfl (by omega) (by decide) (Bs' := [moB Y mo V4]) (by rw [hV4]; rfl) dX8_keep_20 ?_
      refine j_iinc cx (pc := 21) (v := (nI (i + 1))) (lv' := [(1, .int (nI (i + 1))), (0, .ref (mo 0))]) dX8_keep_21 0 rfl (show nI i + nI 1 = nI (i + 1) from nI_add _ _) (by decide) rfl ?_
      refine j_goto cx (pc := 24) (tgt := 2) dX8_keep_24 (by decide) ?_
      refine j_lvm (lv' := [(1, .int (nI (i + 1))), (0, .ref (mo 0))]) (by intro z hz; simp only [List.mem_cons, List.not_mem_nil, or_false] at hz ⊢; rcases hz with rfl | rfl <;> simp) ?_
      refine j_bs (Bs' := [moB Y mo (setC M 4 (cpN (M 1) (M 4) (i + 1)))]) (by subst hV4; subst hV3; rw [cpN_s M 4 1 i (by decide)]) ?_
      exact ih (i + 1) (by omega) (by omega)
  refine j_bs (Bs' := [moB Y mo (setC M 4 (cpN (M 1) (M 4) 0))]) (by rw [cpN_0 M 4 1]) ?_
  refine j_lvm (lv' := [(1, .int (nI 0)), (0, .ref (mo 0))]) (by intro z hz; simp only [List.mem_cons, List.not_mem_nil, or_false] at hz ⊢; rcases hz with rfl | rfl <;> simp) ?_
  exact lp1 (719 - 0) 0 (by omega) (Nat.le_refl _)
def C8_restore (M : Nat → Nat → Int32)  : Int32 × (Nat → Nat → Int32) :=
  if (M 0 1) = 0 then
    ((-5), M)
  else
    let V1 := (C8_record M )
    let V2 := setC V1 1 (cpN (V1 4) (V1 1) 719)
    ((V2 1 4), V2)
set_option maxHeartbeats 4000000 in
set_option maxRecDepth 100000 in
theorem c_X8_restore (l : Launch) (D : va_G) (Y : Nat → ClassId) (mo : Nat → Nat) (M : Nat → Nat → Int32)  (hs : vp_in (M 0 0) 5) : CtI l yX8_restore wsX8_restore 2 41 D (tyL Y) ([moB Y mo M]) [.ref (mo 0)] (C8_restore M ).1 ([moB Y mo (C8_restore M ).2]) := by
  refine CtI.intro (own := RX8) (cc := cX8_restore) (maxL := 2) rfl (by decide +kernel) rfl (Nat.le_of_ble_eq_true rfl) (fun p e s m args below meth c A Q hA hQ cx hr => ?_)
  have hinX8 : ∀ w ∈ wsX80, w ∈ wsX8_restore := by decide +kernel
  have f7 : Cond.fieldLink RX8 7 "FourPhasesModel" "state" "[I" ∈ wsX8_restore := by decide +kernel
  have f19 : Cond.fieldLink RX8 19 "FourPhasesModel" "snapshot" "[I" ∈ wsX8_restore := by decide +kernel
  have f43 : Cond.fieldLink RX8 43 "FourPhasesModel" "hasSnapshot" "Z" ∈ wsX8_restore := by decide +kernel
  refine j_aload_n cx (pc := 0) dX8_restore_0 0 rfl ?_
  refine j_get cx (pc := 1) 0 0 rfl rfl (C := RX8) (T := TX8) (N := 12) rfl hinX8 5 (by decide) f43 rfl (v := .int (M 0 1)) rfl dX8_restore_1 ?_
  refine j_if_ne cx (pc := 4) (tgt := 10) dX8_restore_4 (by decide) (fun c4_1 => ?_) (fun c4_1 => ?_)
  · skip
    refine j_aload_n cx (pc := 10) dX8_restore_10 0 rfl ?_
    obtain ⟨V1, hV1⟩ : ∃ z, z = (C8_record M ) := ⟨_, rfl⟩
    refine j_callv cx (pc := 11) 0 (c_X8_record l D Y mo M  hs) gX8_restore_X8_record rfl (by decide +kernel) rfl ⟨Nat.le_of_ble_eq_true rfl, Nat.le_of_ble_eq_true rfl⟩ [0] rfl (by decide) (Bs' := [moB Y mo V1]) (by rw [hV1]; exact P1_mo M (C8_record M )) A1_mo 0 0 rfl rfl rfl rfl (Nat.le_of_ble_eq_true rfl) dX8_restore_11 ⟨Nat.zero_le _, Nat.zero_le _⟩ ?_
    refine j_iconst cx (pc := 14) (v := (nI 0)) dX8_restore_14 (by decide) ?_
    refine j_istore_n cx (pc := 15) (lv' := [(1, .int (nI 0)), (0, .ref (mo 0))]) dX8_restore_15 (by decide) rfl ?_
    have lp2 : ∀ (n i : Nat), i + n = 719 → 0 ≤ i → J p l e { frames := 2, cells := 0, slots := 0, locals := 41 } s m args below meth c 2 D A 0 0 Q ([moB Y mo (setC V1 1 (cpN (V1 4) (V1 1) i))]) 16 [(1, .int (nI i)), (0, .ref (mo 0))] [] := by
      intro n
      induction n with
      | zero =>
        intro i hi h0
        have hi2 : i = 719 := by omega
        subst hi2
        obtain ⟨V2, hV2⟩ : ∃ z, z = setC V1 1 (cpN (V1 4) (V1 1) 719) := ⟨_, rfl⟩
        refine j_bs (Bs' := [moB Y mo V2]) (by rw [hV2]) ?_
        refine j_iload_n cx (pc := 16) dX8_restore_16 0 rfl ?_
        refine j_sipush cx (pc := 17) (v := (nI 719)) dX8_restore_17 (by decide) ?_
        refine j_icmpN_ge cx (pc := 20) (by decide) (by decide) (tgt := 41) dX8_restore_20 (by decide) (fun c20_3 => ?_) (fun c20_3 => by exfalso; revert c20_3; decide)
        refine j_aload_n cx (pc := 41) dX8_restore_41 1 rfl ?_
        refine j_get cx (pc := 42) 0 0 rfl rfl (C := RX8) (T := TX8) (N := 12) rfl hinX8 0 (by decide) f7 rfl (v := .ref (mo 1)) rfl dX8_restore_42 ?_
        refine j_iconst cx (pc := 45) (v := (nI 4)) dX8_restore_45 (by decide) ?_
        refine j_iald cx (pc := 46) 0 1 0 rfl rfl rfl (by decide) (by decide) dX8_restore_46 ?_
        subst hQ; exact j_iret cx hr (by subst hV2; subst hV1; simp only [C8_restore, if_neg c4_1]) (by subst hV2; subst hV1; simp only [C8_restore, if_neg c4_1]) hA dX8_restore_47
      | succ n ih =>
        intro i hi h0
        obtain ⟨V3, hV3⟩ : ∃ z, z = setC V1 1 (cpN (V1 4) (V1 1) i) := ⟨_, rfl⟩
        refine j_bs (Bs' := [moB Y mo V3]) (by rw [hV3]) ?_
        refine j_iload_n cx (pc := 16) dX8_restore_16 0 rfl ?_
        refine j_sipush cx (pc := 17) (v := (nI 719)) dX8_restore_17 (by decide) ?_
        refine j_icmpN_ge cx (pc := 20) (by omega) (by decide) (tgt := 41) dX8_restore_20 (by decide) (fun c20_4 => by exfalso; omega) (fun c20_4 => ?_)
        refine j_aload_n cx (pc := 23) dX8_restore_23 1 rfl ?_
        refine j_get cx (pc := 24) 0 0 rfl rfl (C := RX8) (T := TX8) (N := 12) rfl hinX8 0 (by decide) f7 rfl (v := .ref (mo 1)) rfl dX8_restore_24 ?_
        refine j_iload_n cx (pc := 27) dX8_restore_27 0 rfl ?_
        refine j_aload_n cx (pc := 28) dX8_restore_28 1 rfl ?_
        refine j_get cx (pc := 29) 0 0 rfl rfl (C := RX8) (T := TX8) (N := 12) rfl hinX8 4 (by decide) f19 rfl (v := .ref (mo 4)) rfl dX8_restore_29 ?_
        refine j_iload_n cx (pc := 32) dX8_restore_32 0 rfl ?_
        refine j_iald cx (pc := 33) 0 4 0 rfl rfl rfl (by omega) (by decide) dX8_restore_33 ?_
        obtain ⟨V4, hV4⟩ : ∃ z, z = up1 V3 1 i (V3 4 i) := ⟨_, rfl⟩
        refine j_iast cx (pc := 34) 0 1 0 rfl rfl rfl (by omega) (by decide) (Bs' := [moB Y mo V4]) (by rw [hV4]; rfl) dX8_restore_34 ?_
        refine j_iinc cx (pc := 35) (v := (nI (i + 1))) (lv' := [(1, .int (nI (i + 1))), (0, .ref (mo 0))]) dX8_restore_35 0 rfl (show nI i + nI 1 = nI (i + 1) from nI_add _ _) (by decide) rfl ?_
        refine j_goto cx (pc := 38) (tgt := 16) dX8_restore_38 (by decide) ?_
        refine j_lvm (lv' := [(1, .int (nI (i + 1))), (0, .ref (mo 0))]) (by intro z hz; simp only [List.mem_cons, List.not_mem_nil, or_false] at hz ⊢; rcases hz with rfl | rfl <;> simp) ?_
        refine j_bs (Bs' := [moB Y mo (setC V1 1 (cpN (V1 4) (V1 1) (i + 1)))]) (by subst hV4; subst hV3; rw [cpN_s V1 1 4 i (by decide)]) ?_
        exact ih (i + 1) (by omega) (by omega)
    refine j_bs (Bs' := [moB Y mo (setC V1 1 (cpN (V1 4) (V1 1) 0))]) (by rw [cpN_0 V1 1 4]) ?_
    refine j_lvm (lv' := [(1, .int (nI 0)), (0, .ref (mo 0))]) (by intro z hz; simp only [List.mem_cons, List.not_mem_nil, or_false] at hz ⊢; rcases hz with rfl | rfl <;> simp) ?_
    exact lp2 (719 - 0) 0 (by omega) (Nat.le_refl _)
  · skip
    refine j_bipush cx (pc := 7) (v := (-5)) dX8_restore_7 (by decide) ?_
    subst hQ; exact j_iret cx hr (by simp only [C8_restore, if_pos c4_1]) (by simp only [C8_restore, if_pos c4_1]) hA dX8_restore_9
def C8_clean (M : Nat → Nat → Int32) (stages : Int32) : Nat → Nat → Int32 :=
  let V1 := setC M 1 (zer (M 1) 3 719)
  let V2 := up1 V1 1 3 stages
  let V3 := up1 V2 1 8 (-5)
  let V4 := up1 V3 1 76 (nI 1)
  let V5 := up1 V4 1 13 (nI 2)
  let V6 := up1 V5 1 14 (nI 2)
  let V7 := up1 V6 1 15 (nI 2)
  let V8 := up1 V7 1 77 (nI 1)
  let V9 := up1 V8 1 16 (nI 2)
  let V10 := up1 V9 1 17 (nI 2)
  let V11 := up1 V10 1 18 (nI 2)
  let V12 := up1 V11 1 78 (nI 1)
  let V13 := up1 V12 1 19 (nI 2)
  let V14 := up1 V13 1 20 (nI 2)
  let V15 := up1 V14 1 21 (nI 2)
  let V16 := up1 V15 1 79 (nI 1)
  let V17 := up1 V16 1 22 (nI 2)
  let V18 := up1 V17 1 23 (nI 2)
  let V19 := up1 V18 1 24 (nI 2)
  let V20 := up1 V19 1 80 (nI 1)
  let V21 := up1 V20 1 25 (nI 2)
  let V22 := up1 V21 1 26 (nI 2)
  let V23 := up1 V22 1 27 (nI 2)
  let V24 := up1 V23 1 81 (nI 1)
  let V25 := up1 V24 1 28 (nI 2)
  let V26 := up1 V25 1 29 (nI 2)
  let V27 := up1 V26 1 30 (nI 2)
  let V28 := up1 V27 1 82 (nI 1)
  let V29 := up1 V28 1 31 (nI 2)
  let V30 := up1 V29 1 32 (nI 2)
  let V31 := up1 V30 1 33 (nI 2)
  V31
set_option maxHeartbeats 4000000 in
set_option maxRecDepth 100000 in
theorem c_X8_clean (l : Launch) (D : va_G) (Y : Nat → ClassId) (mo : Nat → Nat) (M : Nat → Nat → Int32) (stages : Int32)  : CtV l yX8_clean wsX8_clean 0 0 D (tyL Y) ([moB Y mo M]) [.ref (mo 0), .int stages] ([moB Y mo (C8_clean M stages)]) := by
  refine CtV.intro (own := RX8) (cc := cX8_clean) (maxL := 4) rfl (by decide +kernel) rfl (Nat.le_of_ble_eq_true rfl) (fun p e s m args below meth c A Q hA hQ cx hr => ?_)
  have hinX8 : ∀ w ∈ wsX80, w ∈ wsX8_clean := by decide +kernel
  have f7 : Cond.fieldLink RX8 7 "FourPhasesModel" "state" "[I" ∈ wsX8_clean := by decide +kernel
  refine j_iconst cx (pc := 0) (v := (nI 3)) dX8_clean_0 (by decide) ?_
  refine j_istore_n cx (pc := 1) (lv' := [(2, .int (nI 3)), (0, .ref (mo 0)), (1, .int stages)]) dX8_clean_1 (by decide) rfl ?_
  have lp1 : ∀ (n i : Nat), i + n = 719 → 3 ≤ i → J p l e { frames := 0, cells := 0, slots := 0, locals := 0 } s m args below meth c 4 D A 0 0 Q ([moB Y mo (setC M 1 (zer (M 1) 3 i))]) 2 [(2, .int (nI i)), (0, .ref (mo 0)), (1, .int stages)] [] := by
    intro n
    induction n with
    | zero =>
      intro i hi h0
      have hi2 : i = 719 := by omega
      subst hi2
      obtain ⟨V1, hV1⟩ : ∃ z, z = setC M 1 (zer (M 1) 3 719) := ⟨_, rfl⟩
      refine j_bs (Bs' := [moB Y mo V1]) (by rw [hV1]) ?_
      refine j_iload_n cx (pc := 2) dX8_clean_2 0 rfl ?_
      refine j_sipush cx (pc := 3) (v := (nI 719)) dX8_clean_3 (by decide) ?_
      refine j_icmpN_ge cx (pc := 6) (by decide) (by decide) (tgt := 22) dX8_clean_6 (by decide) (fun c6_2 => ?_) (fun c6_2 => by exfalso; revert c6_2; decide)
      refine j_aload_n cx (pc := 22) dX8_clean_22 1 rfl ?_
      refine j_get cx (pc := 23) 0 0 rfl rfl (C := RX8) (T := TX8) (N := 12) rfl hinX8 0 (by decide) f7 rfl (v := .ref (mo 1)) rfl dX8_clean_23 ?_
      refine j_iconst cx (pc := 26) (v := (nI 3)) dX8_clean_26 (by decide) ?_
      refine j_iload_n cx (pc := 27) dX8_clean_27 2 rfl ?_
      obtain ⟨V2, hV2⟩ : ∃ z, z = up1 V1 1 3 stages := ⟨_, rfl⟩
      refine j_iast cx (pc := 28) 0 1 0 rfl rfl rfl (by decide) (by decide) (Bs' := [moB Y mo V2]) (by rw [hV2]; rfl) dX8_clean_28 ?_
      refine j_aload_n cx (pc := 29) dX8_clean_29 1 rfl ?_
      refine j_get cx (pc := 30) 0 0 rfl rfl (C := RX8) (T := TX8) (N := 12) rfl hinX8 0 (by decide) f7 rfl (v := .ref (mo 1)) rfl dX8_clean_30 ?_
      refine j_bipush cx (pc := 33) (v := (nI 8)) dX8_clean_33 (by decide) ?_
      refine j_bipush cx (pc := 35) (v := (-5)) dX8_clean_35 (by decide) ?_
      obtain ⟨V3, hV3⟩ : ∃ z, z = up1 V2 1 8 (-5) := ⟨_, rfl⟩
      refine j_iast cx (pc := 37) 0 1 0 rfl rfl rfl (by decide) (by decide) (Bs' := [moB Y mo V3]) (by rw [hV3]; rfl) dX8_clean_37 ?_
      refine j_iconst cx (pc := 38) (v := (nI 0)) dX8_clean_38 (by decide) ?_
      refine j_istore_n cx (pc := 39) (lv' := [(2, .int (nI 0)), (0, .ref (mo 0)), (1, .int stages)]) dX8_clean_39 (by decide) rfl ?_
      refine j_iload_n cx (pc := 40) dX8_clean_40 0 rfl ?_
      refine j_bipush cx (pc := 41) (v := (nI 6)) dX8_clean_41 (by decide) ?_
      refine j_icmpN_gt cx (pc := 43) (by decide) (by decide) (tgt := 89) dX8_clean_43 (by decide) (fun c43_3 => by exfalso; revert c43_3; decide) (fun c43_3 => ?_)
      refine j_aload_n cx (pc := 46) dX8_clean_46 1 rfl ?_
      refine j_get cx (pc := 47) 0 0 rfl rfl (C := RX8) (T := TX8) (N := 12) rfl hinX8 0 (by decide) f7 rfl (v := .ref (mo 1)) rfl dX8_clean_47 ?_
      refine j_bipush cx (pc := 50) (v := (nI 76)) dX8_clean_50 (by decide) ?_
      refine j_iload_n cx (pc := 52) dX8_clean_52 0 rfl ?_
      refine j_iaddN cx (pc := 53) dX8_clean_53 ?_
      refine j_top (show nI (76 + 0) = nI 76 from rfl) ?_
      refine j_iconst cx (pc := 54) (v := (nI 1)) dX8_clean_54 (by decide) ?_
      obtain ⟨V4, hV4⟩ : ∃ z, z = up1 V3 1 76 (nI 1) := ⟨_, rfl⟩
      refine j_iast cx (pc := 55) 0 1 0 rfl rfl rfl (by decide) (by decide) (Bs' := [moB Y mo V4]) (by rw [hV4]; rfl) dX8_clean_55 ?_
      refine j_iconst cx (pc := 56) (v := (nI 0)) dX8_clean_56 (by decide) ?_
      refine j_istore_n cx (pc := 57) (lv' := [(3, .int (nI 0)), (2, .int (nI 0)), (0, .ref (mo 0)), (1, .int stages)]) dX8_clean_57 (by decide) rfl ?_
      refine j_iload_n cx (pc := 58) dX8_clean_58 0 rfl ?_
      refine j_iconst cx (pc := 59) (v := (nI 2)) dX8_clean_59 (by decide) ?_
      refine j_icmpN_gt cx (pc := 60) (by decide) (by decide) (tgt := 83) dX8_clean_60 (by decide) (fun c60_4 => by exfalso; revert c60_4; decide) (fun c60_4 => ?_)
      refine j_aload_n cx (pc := 63) dX8_clean_63 2 rfl ?_
      refine j_get cx (pc := 64) 0 0 rfl rfl (C := RX8) (T := TX8) (N := 12) rfl hinX8 0 (by decide) f7 rfl (v := .ref (mo 1)) rfl dX8_clean_64 ?_
      refine j_bipush cx (pc := 67) (v := (nI 13)) dX8_clean_67 (by decide) ?_
      refine j_iconst cx (pc := 69) (v := (nI 3)) dX8_clean_69 (by decide) ?_
      refine j_iload_n cx (pc := 70) dX8_clean_70 1 rfl ?_
      refine j_imulN cx (pc := 71) dX8_clean_71 ?_
      refine j_top (show nI (3 * 0) = nI 0 from rfl) ?_
      refine j_iaddN cx (pc := 72) dX8_clean_72 ?_
      refine j_top (show nI (13 + 0) = nI 13 from rfl) ?_
      refine j_iload_n cx (pc := 73) dX8_clean_73 0 rfl ?_
      refine j_iaddN cx (pc := 74) dX8_clean_74 ?_
      refine j_top (show nI (13 + 0) = nI 13 from rfl) ?_
      refine j_iconst cx (pc := 75) (v := (nI 2)) dX8_clean_75 (by decide) ?_
      obtain ⟨V5, hV5⟩ : ∃ z, z = up1 V4 1 13 (nI 2) := ⟨_, rfl⟩
      refine j_iast cx (pc := 76) 0 1 0 rfl rfl rfl (by decide) (by decide) (Bs' := [moB Y mo V5]) (by rw [hV5]; rfl) dX8_clean_76 ?_
      refine j_iinc cx (pc := 77) (v := (nI 1)) (lv' := [(3, .int (nI 1)), (2, .int (nI 0)), (0, .ref (mo 0)), (1, .int stages)]) dX8_clean_77 0 rfl rfl (by decide) rfl ?_
      refine j_goto cx (pc := 80) (tgt := 58) dX8_clean_80 (by decide) ?_
      refine j_iload_n cx (pc := 58) dX8_clean_58 0 rfl ?_
      refine j_iconst cx (pc := 59) (v := (nI 2)) dX8_clean_59 (by decide) ?_
      refine j_icmpN_gt cx (pc := 60) (by decide) (by decide) (tgt := 83) dX8_clean_60 (by decide) (fun c60_5 => by exfalso; revert c60_5; decide) (fun c60_5 => ?_)
      refine j_aload_n cx (pc := 63) dX8_clean_63 2 rfl ?_
      refine j_get cx (pc := 64) 0 0 rfl rfl (C := RX8) (T := TX8) (N := 12) rfl hinX8 0 (by decide) f7 rfl (v := .ref (mo 1)) rfl dX8_clean_64 ?_
      refine j_bipush cx (pc := 67) (v := (nI 13)) dX8_clean_67 (by decide) ?_
      refine j_iconst cx (pc := 69) (v := (nI 3)) dX8_clean_69 (by decide) ?_
      refine j_iload_n cx (pc := 70) dX8_clean_70 1 rfl ?_
      refine j_imulN cx (pc := 71) dX8_clean_71 ?_
      refine j_top (show nI (3 * 0) = nI 0 from rfl) ?_
      refine j_iaddN cx (pc := 72) dX8_clean_72 ?_
      refine j_top (show nI (13 + 0) = nI 13 from rfl) ?_
      refine j_iload_n cx (pc := 73) dX8_clean_73 0 rfl ?_
      refine j_iaddN cx (pc := 74) dX8_clean_74 ?_
      refine j_top (show nI (13 + 1) = nI 14 from rfl) ?_
      refine j_iconst cx (pc := 75) (v := (nI 2)) dX8_clean_75 (by decide) ?_
      obtain ⟨V6, hV6⟩ : ∃ z, z = up1 V5 1 14 (nI 2) := ⟨_, rfl⟩
      refine j_iast cx (pc := 76) 0 1 0 rfl rfl rfl (by decide) (by decide) (Bs' := [moB Y mo V6]) (by rw [hV6]; rfl) dX8_clean_76 ?_
      refine j_iinc cx (pc := 77) (v := (nI 2)) (lv' := [(3, .int (nI 2)), (2, .int (nI 0)), (0, .ref (mo 0)), (1, .int stages)]) dX8_clean_77 0 rfl rfl (by decide) rfl ?_
      refine j_goto cx (pc := 80) (tgt := 58) dX8_clean_80 (by decide) ?_
      refine j_iload_n cx (pc := 58) dX8_clean_58 0 rfl ?_
      refine j_iconst cx (pc := 59) (v := (nI 2)) dX8_clean_59 (by decide) ?_
      refine j_icmpN_gt cx (pc := 60) (by decide) (by decide) (tgt := 83) dX8_clean_60 (by decide) (fun c60_6 => by exfalso; revert c60_6; decide) (fun c60_6 => ?_)
      refine j_aload_n cx (pc := 63) dX8_clean_63 2 rfl ?_
      refine j_get cx (pc := 64) 0 0 rfl rfl (C := RX8) (T := TX8) (N := 12) rfl hinX8 0 (by decide) f7 rfl (v := .ref (mo 1)) rfl dX8_clean_64 ?_
      refine j_bipush cx (pc := 67) (v := (nI 13)) dX8_clean_67 (by decide) ?_
      refine j_iconst cx (pc := 69) (v := (nI 3)) dX8_clean_69 (by decide) ?_
      refine j_iload_n cx (pc := 70) dX8_clean_70 1 rfl ?_
      refine j_imulN cx (pc := 71) dX8_clean_71 ?_
      refine j_top (show nI (3 * 0) = nI 0 from rfl) ?_
      refine j_iaddN cx (pc := 72) dX8_clean_72 ?_
      refine j_top (show nI (13 + 0) = nI 13 from rfl) ?_
      refine j_iload_n cx (pc := 73) dX8_clean_73 0 rfl ?_
      refine j_iaddN cx (pc := 74) dX8_clean_74 ?_
      refine j_top (show nI (13 + 2) = nI 15 from rfl) ?_
      refine j_iconst cx (pc := 75) (v := (nI 2)) dX8_clean_75 (by decide) ?_
      obtain ⟨V7, hV7⟩ : ∃ z, z = up1 V6 1 15 (nI 2) := ⟨_, rfl⟩
      refine j_iast cx (pc := 76) 0 1 0 rfl rfl rfl (by decide) (by decide) (Bs' := [moB Y mo V7]) (by rw [hV7]; rfl) dX8_clean_76 ?_
      refine j_iinc cx (pc := 77) (v := (nI 3)) (lv' := [(3, .int (nI 3)), (2, .int (nI 0)), (0, .ref (mo 0)), (1, .int stages)]) dX8_clean_77 0 rfl rfl (by decide) rfl ?_
      refine j_goto cx (pc := 80) (tgt := 58) dX8_clean_80 (by decide) ?_
      refine j_iload_n cx (pc := 58) dX8_clean_58 0 rfl ?_
      refine j_iconst cx (pc := 59) (v := (nI 2)) dX8_clean_59 (by decide) ?_
      refine j_icmpN_gt cx (pc := 60) (by decide) (by decide) (tgt := 83) dX8_clean_60 (by decide) (fun c60_7 => ?_) (fun c60_7 => by exfalso; revert c60_7; decide)
      refine j_iinc cx (pc := 83) (v := (nI 1)) (lv' := [(2, .int (nI 1)), (3, .int (nI 3)), (0, .ref (mo 0)), (1, .int stages)]) dX8_clean_83 1 rfl rfl (by decide) rfl ?_
      refine j_goto cx (pc := 86) (tgt := 40) dX8_clean_86 (by decide) ?_
      refine j_iload_n cx (pc := 40) dX8_clean_40 0 rfl ?_
      refine j_bipush cx (pc := 41) (v := (nI 6)) dX8_clean_41 (by decide) ?_
      refine j_icmpN_gt cx (pc := 43) (by decide) (by decide) (tgt := 89) dX8_clean_43 (by decide) (fun c43_8 => by exfalso; revert c43_8; decide) (fun c43_8 => ?_)
      refine j_aload_n cx (pc := 46) dX8_clean_46 2 rfl ?_
      refine j_get cx (pc := 47) 0 0 rfl rfl (C := RX8) (T := TX8) (N := 12) rfl hinX8 0 (by decide) f7 rfl (v := .ref (mo 1)) rfl dX8_clean_47 ?_
      refine j_bipush cx (pc := 50) (v := (nI 76)) dX8_clean_50 (by decide) ?_
      refine j_iload_n cx (pc := 52) dX8_clean_52 0 rfl ?_
      refine j_iaddN cx (pc := 53) dX8_clean_53 ?_
      refine j_top (show nI (76 + 1) = nI 77 from rfl) ?_
      refine j_iconst cx (pc := 54) (v := (nI 1)) dX8_clean_54 (by decide) ?_
      obtain ⟨V8, hV8⟩ : ∃ z, z = up1 V7 1 77 (nI 1) := ⟨_, rfl⟩
      refine j_iast cx (pc := 55) 0 1 0 rfl rfl rfl (by decide) (by decide) (Bs' := [moB Y mo V8]) (by rw [hV8]; rfl) dX8_clean_55 ?_
      refine j_iconst cx (pc := 56) (v := (nI 0)) dX8_clean_56 (by decide) ?_
      refine j_istore_n cx (pc := 57) (lv' := [(3, .int (nI 0)), (2, .int (nI 1)), (0, .ref (mo 0)), (1, .int stages)]) dX8_clean_57 (by decide) rfl ?_
      refine j_iload_n cx (pc := 58) dX8_clean_58 0 rfl ?_
      refine j_iconst cx (pc := 59) (v := (nI 2)) dX8_clean_59 (by decide) ?_
      refine j_icmpN_gt cx (pc := 60) (by decide) (by decide) (tgt := 83) dX8_clean_60 (by decide) (fun c60_9 => by exfalso; revert c60_9; decide) (fun c60_9 => ?_)
      refine j_aload_n cx (pc := 63) dX8_clean_63 2 rfl ?_
      refine j_get cx (pc := 64) 0 0 rfl rfl (C := RX8) (T := TX8) (N := 12) rfl hinX8 0 (by decide) f7 rfl (v := .ref (mo 1)) rfl dX8_clean_64 ?_
      refine j_bipush cx (pc := 67) (v := (nI 13)) dX8_clean_67 (by decide) ?_
      refine j_iconst cx (pc := 69) (v := (nI 3)) dX8_clean_69 (by decide) ?_
      refine j_iload_n cx (pc := 70) dX8_clean_70 1 rfl ?_
      refine j_imulN cx (pc := 71) dX8_clean_71 ?_
      refine j_top (show nI (3 * 1) = nI 3 from rfl) ?_
      refine j_iaddN cx (pc := 72) dX8_clean_72 ?_
      refine j_top (show nI (13 + 3) = nI 16 from rfl) ?_
      refine j_iload_n cx (pc := 73) dX8_clean_73 0 rfl ?_
      refine j_iaddN cx (pc := 74) dX8_clean_74 ?_
      refine j_top (show nI (16 + 0) = nI 16 from rfl) ?_
      refine j_iconst cx (pc := 75) (v := (nI 2)) dX8_clean_75 (by decide) ?_
      obtain ⟨V9, hV9⟩ : ∃ z, z = up1 V8 1 16 (nI 2) := ⟨_, rfl⟩
      refine j_iast cx (pc := 76) 0 1 0 rfl rfl rfl (by decide) (by decide) (Bs' := [moB Y mo V9]) (by rw [hV9]; rfl) dX8_clean_76 ?_
      refine j_iinc cx (pc := 77) (v := (nI 1)) (lv' := [(3, .int (nI 1)), (2, .int (nI 1)), (0, .ref (mo 0)), (1, .int stages)]) dX8_clean_77 0 rfl rfl (by decide) rfl ?_
      refine j_goto cx (pc := 80) (tgt := 58) dX8_clean_80 (by decide) ?_
      refine j_iload_n cx (pc := 58) dX8_clean_58 0 rfl ?_
      refine j_iconst cx (pc := 59) (v := (nI 2)) dX8_clean_59 (by decide) ?_
      refine j_icmpN_gt cx (pc := 60) (by decide) (by decide) (tgt := 83) dX8_clean_60 (by decide) (fun c60_10 => by exfalso; revert c60_10; decide) (fun c60_10 => ?_)
      refine j_aload_n cx (pc := 63) dX8_clean_63 2 rfl ?_
      refine j_get cx (pc := 64) 0 0 rfl rfl (C := RX8) (T := TX8) (N := 12) rfl hinX8 0 (by decide) f7 rfl (v := .ref (mo 1)) rfl dX8_clean_64 ?_
      refine j_bipush cx (pc := 67) (v := (nI 13)) dX8_clean_67 (by decide) ?_
      refine j_iconst cx (pc := 69) (v := (nI 3)) dX8_clean_69 (by decide) ?_
      refine j_iload_n cx (pc := 70) dX8_clean_70 1 rfl ?_
      refine j_imulN cx (pc := 71) dX8_clean_71 ?_
      refine j_top (show nI (3 * 1) = nI 3 from rfl) ?_
      refine j_iaddN cx (pc := 72) dX8_clean_72 ?_
      refine j_top (show nI (13 + 3) = nI 16 from rfl) ?_
      refine j_iload_n cx (pc := 73) dX8_clean_73 0 rfl ?_
      refine j_iaddN cx (pc := 74) dX8_clean_74 ?_
      refine j_top (show nI (16 + 1) = nI 17 from rfl) ?_
      refine j_iconst cx (pc := 75) (v := (nI 2)) dX8_clean_75 (by decide) ?_
      obtain ⟨V10, hV10⟩ : ∃ z, z = up1 V9 1 17 (nI 2) := ⟨_, rfl⟩
      refine j_iast cx (pc := 76) 0 1 0 rfl rfl rfl (by decide) (by decide) (Bs' := [moB Y mo V10]) (by rw [hV10]; rfl) dX8_clean_76 ?_
      refine j_iinc cx (pc := 77) (v := (nI 2)) (lv' := [(3, .int (nI 2)), (2, .int (nI 1)), (0, .ref (mo 0)), (1, .int stages)]) dX8_clean_77 0 rfl rfl (by decide) rfl ?_
      refine j_goto cx (pc := 80) (tgt := 58) dX8_clean_80 (by decide) ?_
      refine j_iload_n cx (pc := 58) dX8_clean_58 0 rfl ?_
      refine j_iconst cx (pc := 59) (v := (nI 2)) dX8_clean_59 (by decide) ?_
      refine j_icmpN_gt cx (pc := 60) (by decide) (by decide) (tgt := 83) dX8_clean_60 (by decide) (fun c60_11 => by exfalso; revert c60_11; decide) (fun c60_11 => ?_)
      refine j_aload_n cx (pc := 63) dX8_clean_63 2 rfl ?_
      refine j_get cx (pc := 64) 0 0 rfl rfl (C := RX8) (T := TX8) (N := 12) rfl hinX8 0 (by decide) f7 rfl (v := .ref (mo 1)) rfl dX8_clean_64 ?_
      refine j_bipush cx (pc := 67) (v := (nI 13)) dX8_clean_67 (by decide) ?_
      refine j_iconst cx (pc := 69) (v := (nI 3)) dX8_clean_69 (by decide) ?_
      refine j_iload_n cx (pc := 70) dX8_clean_70 1 rfl ?_
      refine j_imulN cx (pc := 71) dX8_clean_71 ?_
      refine j_top (show nI (3 * 1) = nI 3 from rfl) ?_
      refine j_iaddN cx (pc := 72) dX8_clean_72 ?_
      refine j_top (show nI (13 + 3) = nI 16 from rfl) ?_
      refine j_iload_n cx (pc := 73) dX8_clean_73 0 rfl ?_
      refine j_iaddN cx (pc := 74) dX8_clean_74 ?_
      refine j_top (show nI (16 + 2) = nI 18 from rfl) ?_
      refine j_iconst cx (pc := 75) (v := (nI 2)) dX8_clean_75 (by decide) ?_
      obtain ⟨V11, hV11⟩ : ∃ z, z = up1 V10 1 18 (nI 2) := ⟨_, rfl⟩
      refine j_iast cx (pc := 76) 0 1 0 rfl rfl rfl (by decide) (by decide) (Bs' := [moB Y mo V11]) (by rw [hV11]; rfl) dX8_clean_76 ?_
      refine j_iinc cx (pc := 77) (v := (nI 3)) (lv' := [(3, .int (nI 3)), (2, .int (nI 1)), (0, .ref (mo 0)), (1, .int stages)]) dX8_clean_77 0 rfl rfl (by decide) rfl ?_
      refine j_goto cx (pc := 80) (tgt := 58) dX8_clean_80 (by decide) ?_
      refine j_iload_n cx (pc := 58) dX8_clean_58 0 rfl ?_
      refine j_iconst cx (pc := 59) (v := (nI 2)) dX8_clean_59 (by decide) ?_
      refine j_icmpN_gt cx (pc := 60) (by decide) (by decide) (tgt := 83) dX8_clean_60 (by decide) (fun c60_12 => ?_) (fun c60_12 => by exfalso; revert c60_12; decide)
      refine j_iinc cx (pc := 83) (v := (nI 2)) (lv' := [(2, .int (nI 2)), (3, .int (nI 3)), (0, .ref (mo 0)), (1, .int stages)]) dX8_clean_83 1 rfl rfl (by decide) rfl ?_
      refine j_goto cx (pc := 86) (tgt := 40) dX8_clean_86 (by decide) ?_
      refine j_iload_n cx (pc := 40) dX8_clean_40 0 rfl ?_
      refine j_bipush cx (pc := 41) (v := (nI 6)) dX8_clean_41 (by decide) ?_
      refine j_icmpN_gt cx (pc := 43) (by decide) (by decide) (tgt := 89) dX8_clean_43 (by decide) (fun c43_13 => by exfalso; revert c43_13; decide) (fun c43_13 => ?_)
      refine j_aload_n cx (pc := 46) dX8_clean_46 2 rfl ?_
      refine j_get cx (pc := 47) 0 0 rfl rfl (C := RX8) (T := TX8) (N := 12) rfl hinX8 0 (by decide) f7 rfl (v := .ref (mo 1)) rfl dX8_clean_47 ?_
      refine j_bipush cx (pc := 50) (v := (nI 76)) dX8_clean_50 (by decide) ?_
      refine j_iload_n cx (pc := 52) dX8_clean_52 0 rfl ?_
      refine j_iaddN cx (pc := 53) dX8_clean_53 ?_
      refine j_top (show nI (76 + 2) = nI 78 from rfl) ?_
      refine j_iconst cx (pc := 54) (v := (nI 1)) dX8_clean_54 (by decide) ?_
      obtain ⟨V12, hV12⟩ : ∃ z, z = up1 V11 1 78 (nI 1) := ⟨_, rfl⟩
      refine j_iast cx (pc := 55) 0 1 0 rfl rfl rfl (by decide) (by decide) (Bs' := [moB Y mo V12]) (by rw [hV12]; rfl) dX8_clean_55 ?_
      refine j_iconst cx (pc := 56) (v := (nI 0)) dX8_clean_56 (by decide) ?_
      refine j_istore_n cx (pc := 57) (lv' := [(3, .int (nI 0)), (2, .int (nI 2)), (0, .ref (mo 0)), (1, .int stages)]) dX8_clean_57 (by decide) rfl ?_
      refine j_iload_n cx (pc := 58) dX8_clean_58 0 rfl ?_
      refine j_iconst cx (pc := 59) (v := (nI 2)) dX8_clean_59 (by decide) ?_
      refine j_icmpN_gt cx (pc := 60) (by decide) (by decide) (tgt := 83) dX8_clean_60 (by decide) (fun c60_14 => by exfalso; revert c60_14; decide) (fun c60_14 => ?_)
      refine j_aload_n cx (pc := 63) dX8_clean_63 2 rfl ?_
      refine j_get cx (pc := 64) 0 0 rfl rfl (C := RX8) (T := TX8) (N := 12) rfl hinX8 0 (by decide) f7 rfl (v := .ref (mo 1)) rfl dX8_clean_64 ?_
      refine j_bipush cx (pc := 67) (v := (nI 13)) dX8_clean_67 (by decide) ?_
      refine j_iconst cx (pc := 69) (v := (nI 3)) dX8_clean_69 (by decide) ?_
      refine j_iload_n cx (pc := 70) dX8_clean_70 1 rfl ?_
      refine j_imulN cx (pc := 71) dX8_clean_71 ?_
      refine j_top (show nI (3 * 2) = nI 6 from rfl) ?_
      refine j_iaddN cx (pc := 72) dX8_clean_72 ?_
      refine j_top (show nI (13 + 6) = nI 19 from rfl) ?_
      refine j_iload_n cx (pc := 73) dX8_clean_73 0 rfl ?_
      refine j_iaddN cx (pc := 74) dX8_clean_74 ?_
      refine j_top (show nI (19 + 0) = nI 19 from rfl) ?_
      refine j_iconst cx (pc := 75) (v := (nI 2)) dX8_clean_75 (by decide) ?_
      obtain ⟨V13, hV13⟩ : ∃ z, z = up1 V12 1 19 (nI 2) := ⟨_, rfl⟩
      refine j_iast cx (pc := 76) 0 1 0 rfl rfl rfl (by decide) (by decide) (Bs' := [moB Y mo V13]) (by rw [hV13]; rfl) dX8_clean_76 ?_
      refine j_iinc cx (pc := 77) (v := (nI 1)) (lv' := [(3, .int (nI 1)), (2, .int (nI 2)), (0, .ref (mo 0)), (1, .int stages)]) dX8_clean_77 0 rfl rfl (by decide) rfl ?_
      refine j_goto cx (pc := 80) (tgt := 58) dX8_clean_80 (by decide) ?_
      refine j_iload_n cx (pc := 58) dX8_clean_58 0 rfl ?_
      refine j_iconst cx (pc := 59) (v := (nI 2)) dX8_clean_59 (by decide) ?_
      refine j_icmpN_gt cx (pc := 60) (by decide) (by decide) (tgt := 83) dX8_clean_60 (by decide) (fun c60_15 => by exfalso; revert c60_15; decide) (fun c60_15 => ?_)
      refine j_aload_n cx (pc := 63) dX8_clean_63 2 rfl ?_
      refine j_get cx (pc := 64) 0 0 rfl rfl (C := RX8) (T := TX8) (N := 12) rfl hinX8 0 (by decide) f7 rfl (v := .ref (mo 1)) rfl dX8_clean_64 ?_
      refine j_bipush cx (pc := 67) (v := (nI 13)) dX8_clean_67 (by decide) ?_
      refine j_iconst cx (pc := 69) (v := (nI 3)) dX8_clean_69 (by decide) ?_
      refine j_iload_n cx (pc := 70) dX8_clean_70 1 rfl ?_
      refine j_imulN cx (pc := 71) dX8_clean_71 ?_
      refine j_top (show nI (3 * 2) = nI 6 from rfl) ?_
      refine j_iaddN cx (pc := 72) dX8_clean_72 ?_
      refine j_top (show nI (13 + 6) = nI 19 from rfl) ?_
      refine j_iload_n cx (pc := 73) dX8_clean_73 0 rfl ?_
      refine j_iaddN cx (pc := 74) dX8_clean_74 ?_
      refine j_top (show nI (19 + 1) = nI 20 from rfl) ?_
      refine j_iconst cx (pc := 75) (v := (nI 2)) dX8_clean_75 (by decide) ?_
      obtain ⟨V14, hV14⟩ : ∃ z, z = up1 V13 1 20 (nI 2) := ⟨_, rfl⟩
      refine j_iast cx (pc := 76) 0 1 0 rfl rfl rfl (by decide) (by decide) (Bs' := [moB Y mo V14]) (by rw [hV14]; rfl) dX8_clean_76 ?_
      refine j_iinc cx (pc := 77) (v := (nI 2)) (lv' := [(3, .int (nI 2)), (2, .int (nI 2)), (0, .ref (mo 0)), (1, .int stages)]) dX8_clean_77 0 rfl rfl (by decide) rfl ?_
      refine j_goto cx (pc := 80) (tgt := 58) dX8_clean_80 (by decide) ?_
      refine j_iload_n cx (pc := 58) dX8_clean_58 0 rfl ?_
      refine j_iconst cx (pc := 59) (v := (nI 2)) dX8_clean_59 (by decide) ?_
      refine j_icmpN_gt cx (pc := 60) (by decide) (by decide) (tgt := 83) dX8_clean_60 (by decide) (fun c60_16 => by exfalso; revert c60_16; decide) (fun c60_16 => ?_)
      refine j_aload_n cx (pc := 63) dX8_clean_63 2 rfl ?_
      refine j_get cx (pc := 64) 0 0 rfl rfl (C := RX8) (T := TX8) (N := 12) rfl hinX8 0 (by decide) f7 rfl (v := .ref (mo 1)) rfl dX8_clean_64 ?_
      refine j_bipush cx (pc := 67) (v := (nI 13)) dX8_clean_67 (by decide) ?_
      refine j_iconst cx (pc := 69) (v := (nI 3)) dX8_clean_69 (by decide) ?_
      refine j_iload_n cx (pc := 70) dX8_clean_70 1 rfl ?_
      refine j_imulN cx (pc := 71) dX8_clean_71 ?_
      refine j_top (show nI (3 * 2) = nI 6 from rfl) ?_
      refine j_iaddN cx (pc := 72) dX8_clean_72 ?_
      refine j_top (show nI (13 + 6) = nI 19 from rfl) ?_
      refine j_iload_n cx (pc := 73) dX8_clean_73 0 rfl ?_
      refine j_iaddN cx (pc := 74) dX8_clean_74 ?_
      refine j_top (show nI (19 + 2) = nI 21 from rfl) ?_
      refine j_iconst cx (pc := 75) (v := (nI 2)) dX8_clean_75 (by decide) ?_
      obtain ⟨V15, hV15⟩ : ∃ z, z = up1 V14 1 21 (nI 2) := ⟨_, rfl⟩
      refine j_iast cx (pc := 76) 0 1 0 rfl rfl rfl (by decide) (by decide) (Bs' := [moB Y mo V15]) (by rw [hV15]; rfl) dX8_clean_76 ?_
      refine j_iinc cx (pc := 77) (v := (nI 3)) (lv' := [(3, .int (nI 3)), (2, .int (nI 2)), (0, .ref (mo 0)), (1, .int stages)]) dX8_clean_77 0 rfl rfl (by decide) rfl ?_
      refine j_goto cx (pc := 80) (tgt := 58) dX8_clean_80 (by decide) ?_
      refine j_iload_n cx (pc := 58) dX8_clean_58 0 rfl ?_
      refine j_iconst cx (pc := 59) (v := (nI 2)) dX8_clean_59 (by decide) ?_
      refine j_icmpN_gt cx (pc := 60) (by decide) (by decide) (tgt := 83) dX8_clean_60 (by decide) (fun c60_17 => ?_) (fun c60_17 => by exfalso; revert c60_17; decide)
      refine j_iinc cx (pc := 83) (v := (nI 3)) (lv' := [(2, .int (nI 3)), (3, .int (nI 3)), (0, .ref (mo 0)), (1, .int stages)]) dX8_clean_83 1 rfl rfl (by decide) rfl ?_
      refine j_goto cx (pc := 86) (tgt := 40) dX8_clean_86 (by decide) ?_
      refine j_iload_n cx (pc := 40) dX8_clean_40 0 rfl ?_
      refine j_bipush cx (pc := 41) (v := (nI 6)) dX8_clean_41 (by decide) ?_
      refine j_icmpN_gt cx (pc := 43) (by decide) (by decide) (tgt := 89) dX8_clean_43 (by decide) (fun c43_18 => by exfalso; revert c43_18; decide) (fun c43_18 => ?_)
      refine j_aload_n cx (pc := 46) dX8_clean_46 2 rfl ?_
      refine j_get cx (pc := 47) 0 0 rfl rfl (C := RX8) (T := TX8) (N := 12) rfl hinX8 0 (by decide) f7 rfl (v := .ref (mo 1)) rfl dX8_clean_47 ?_
      refine j_bipush cx (pc := 50) (v := (nI 76)) dX8_clean_50 (by decide) ?_
      refine j_iload_n cx (pc := 52) dX8_clean_52 0 rfl ?_
      refine j_iaddN cx (pc := 53) dX8_clean_53 ?_
      refine j_top (show nI (76 + 3) = nI 79 from rfl) ?_
      refine j_iconst cx (pc := 54) (v := (nI 1)) dX8_clean_54 (by decide) ?_
      obtain ⟨V16, hV16⟩ : ∃ z, z = up1 V15 1 79 (nI 1) := ⟨_, rfl⟩
      refine j_iast cx (pc := 55) 0 1 0 rfl rfl rfl (by decide) (by decide) (Bs' := [moB Y mo V16]) (by rw [hV16]; rfl) dX8_clean_55 ?_
      refine j_iconst cx (pc := 56) (v := (nI 0)) dX8_clean_56 (by decide) ?_
      refine j_istore_n cx (pc := 57) (lv' := [(3, .int (nI 0)), (2, .int (nI 3)), (0, .ref (mo 0)), (1, .int stages)]) dX8_clean_57 (by decide) rfl ?_
      refine j_iload_n cx (pc := 58) dX8_clean_58 0 rfl ?_
      refine j_iconst cx (pc := 59) (v := (nI 2)) dX8_clean_59 (by decide) ?_
      refine j_icmpN_gt cx (pc := 60) (by decide) (by decide) (tgt := 83) dX8_clean_60 (by decide) (fun c60_19 => by exfalso; revert c60_19; decide) (fun c60_19 => ?_)
      refine j_aload_n cx (pc := 63) dX8_clean_63 2 rfl ?_
      refine j_get cx (pc := 64) 0 0 rfl rfl (C := RX8) (T := TX8) (N := 12) rfl hinX8 0 (by decide) f7 rfl (v := .ref (mo 1)) rfl dX8_clean_64 ?_
      refine j_bipush cx (pc := 67) (v := (nI 13)) dX8_clean_67 (by decide) ?_
      refine j_iconst cx (pc := 69) (v := (nI 3)) dX8_clean_69 (by decide) ?_
      refine j_iload_n cx (pc := 70) dX8_clean_70 1 rfl ?_
      refine j_imulN cx (pc := 71) dX8_clean_71 ?_
      refine j_top (show nI (3 * 3) = nI 9 from rfl) ?_
      refine j_iaddN cx (pc := 72) dX8_clean_72 ?_
      refine j_top (show nI (13 + 9) = nI 22 from rfl) ?_
      refine j_iload_n cx (pc := 73) dX8_clean_73 0 rfl ?_
      refine j_iaddN cx (pc := 74) dX8_clean_74 ?_
      refine j_top (show nI (22 + 0) = nI 22 from rfl) ?_
      refine j_iconst cx (pc := 75) (v := (nI 2)) dX8_clean_75 (by decide) ?_
      obtain ⟨V17, hV17⟩ : ∃ z, z = up1 V16 1 22 (nI 2) := ⟨_, rfl⟩
      refine j_iast cx (pc := 76) 0 1 0 rfl rfl rfl (by decide) (by decide) (Bs' := [moB Y mo V17]) (by rw [hV17]; rfl) dX8_clean_76 ?_
      refine j_iinc cx (pc := 77) (v := (nI 1)) (lv' := [(3, .int (nI 1)), (2, .int (nI 3)), (0, .ref (mo 0)), (1, .int stages)]) dX8_clean_77 0 rfl rfl (by decide) rfl ?_
      refine j_goto cx (pc := 80) (tgt := 58) dX8_clean_80 (by decide) ?_
      refine j_iload_n cx (pc := 58) dX8_clean_58 0 rfl ?_
      refine j_iconst cx (pc := 59) (v := (nI 2)) dX8_clean_59 (by decide) ?_
      refine j_icmpN_gt cx (pc := 60) (by decide) (by decide) (tgt := 83) dX8_clean_60 (by decide) (fun c60_20 => by exfalso; revert c60_20; decide) (fun c60_20 => ?_)
      refine j_aload_n cx (pc := 63) dX8_clean_63 2 rfl ?_
      refine j_get cx (pc := 64) 0 0 rfl rfl (C := RX8) (T := TX8) (N := 12) rfl hinX8 0 (by decide) f7 rfl (v := .ref (mo 1)) rfl dX8_clean_64 ?_
      refine j_bipush cx (pc := 67) (v := (nI 13)) dX8_clean_67 (by decide) ?_
      refine j_iconst cx (pc := 69) (v := (nI 3)) dX8_clean_69 (by decide) ?_
      refine j_iload_n cx (pc := 70) dX8_clean_70 1 rfl ?_
      refine j_imulN cx (pc := 71) dX8_clean_71 ?_
      refine j_top (show nI (3 * 3) = nI 9 from rfl) ?_
      refine j_iaddN cx (pc := 72) dX8_clean_72 ?_
      refine j_top (show nI (13 + 9) = nI 22 from rfl) ?_
      refine j_iload_n cx (pc := 73) dX8_clean_73 0 rfl ?_
      refine j_iaddN cx (pc := 74) dX8_clean_74 ?_
      refine j_top (show nI (22 + 1) = nI 23 from rfl) ?_
      refine j_iconst cx (pc := 75) (v := (nI 2)) dX8_clean_75 (by decide) ?_
      obtain ⟨V18, hV18⟩ : ∃ z, z = up1 V17 1 23 (nI 2) := ⟨_, rfl⟩
      refine j_iast cx (pc := 76) 0 1 0 rfl rfl rfl (by decide) (by decide) (Bs' := [moB Y mo V18]) (by rw [hV18]; rfl) dX8_clean_76 ?_
      refine j_iinc cx (pc := 77) (v := (nI 2)) (lv' := [(3, .int (nI 2)), (2, .int (nI 3)), (0, .ref (mo 0)), (1, .int stages)]) dX8_clean_77 0 rfl rfl (by decide) rfl ?_
      refine j_goto cx (pc := 80) (tgt := 58) dX8_clean_80 (by decide) ?_
      refine j_iload_n cx (pc := 58) dX8_clean_58 0 rfl ?_
      refine j_iconst cx (pc := 59) (v := (nI 2)) dX8_clean_59 (by decide) ?_
      refine j_icmpN_gt cx (pc := 60) (by decide) (by decide) (tgt := 83) dX8_clean_60 (by decide) (fun c60_21 => by exfalso; revert c60_21; decide) (fun c60_21 => ?_)
      refine j_aload_n cx (pc := 63) dX8_clean_63 2 rfl ?_
      refine j_get cx (pc := 64) 0 0 rfl rfl (C := RX8) (T := TX8) (N := 12) rfl hinX8 0 (by decide) f7 rfl (v := .ref (mo 1)) rfl dX8_clean_64 ?_
      refine j_bipush cx (pc := 67) (v := (nI 13)) dX8_clean_67 (by decide) ?_
      refine j_iconst cx (pc := 69) (v := (nI 3)) dX8_clean_69 (by decide) ?_
      refine j_iload_n cx (pc := 70) dX8_clean_70 1 rfl ?_
      refine j_imulN cx (pc := 71) dX8_clean_71 ?_
      refine j_top (show nI (3 * 3) = nI 9 from rfl) ?_
      refine j_iaddN cx (pc := 72) dX8_clean_72 ?_
      refine j_top (show nI (13 + 9) = nI 22 from rfl) ?_
      refine j_iload_n cx (pc := 73) dX8_clean_73 0 rfl ?_
      refine j_iaddN cx (pc := 74) dX8_clean_74 ?_
      refine j_top (show nI (22 + 2) = nI 24 from rfl) ?_
      refine j_iconst cx (pc := 75) (v := (nI 2)) dX8_clean_75 (by decide) ?_
      obtain ⟨V19, hV19⟩ : ∃ z, z = up1 V18 1 24 (nI 2) := ⟨_, rfl⟩
      refine j_iast cx (pc := 76) 0 1 0 rfl rfl rfl (by decide) (by decide) (Bs' := [moB Y mo V19]) (by rw [hV19]; rfl) dX8_clean_76 ?_
      refine j_iinc cx (pc := 77) (v := (nI 3)) (lv' := [(3, .int (nI 3)), (2, .int (nI 3)), (0, .ref (mo 0)), (1, .int stages)]) dX8_clean_77 0 rfl rfl (by decide) rfl ?_
      refine j_goto cx (pc := 80) (tgt := 58) dX8_clean_80 (by decide) ?_
      refine j_iload_n cx (pc := 58) dX8_clean_58 0 rfl ?_
      refine j_iconst cx (pc := 59) (v := (nI 2)) dX8_clean_59 (by decide) ?_
      refine j_icmpN_gt cx (pc := 60) (by decide) (by decide) (tgt := 83) dX8_clean_60 (by decide) (fun c60_22 => ?_) (fun c60_22 => by exfalso; revert c60_22; decide)
      refine j_iinc cx (pc := 83) (v := (nI 4)) (lv' := [(2, .int (nI 4)), (3, .int (nI 3)), (0, .ref (mo 0)), (1, .int stages)]) dX8_clean_83 1 rfl rfl (by decide) rfl ?_
      refine j_goto cx (pc := 86) (tgt := 40) dX8_clean_86 (by decide) ?_
      refine j_iload_n cx (pc := 40) dX8_clean_40 0 rfl ?_
      refine j_bipush cx (pc := 41) (v := (nI 6)) dX8_clean_41 (by decide) ?_
      refine j_icmpN_gt cx (pc := 43) (by decide) (by decide) (tgt := 89) dX8_clean_43 (by decide) (fun c43_23 => by exfalso; revert c43_23; decide) (fun c43_23 => ?_)
      refine j_aload_n cx (pc := 46) dX8_clean_46 2 rfl ?_
      refine j_get cx (pc := 47) 0 0 rfl rfl (C := RX8) (T := TX8) (N := 12) rfl hinX8 0 (by decide) f7 rfl (v := .ref (mo 1)) rfl dX8_clean_47 ?_
      refine j_bipush cx (pc := 50) (v := (nI 76)) dX8_clean_50 (by decide) ?_
      refine j_iload_n cx (pc := 52) dX8_clean_52 0 rfl ?_
      refine j_iaddN cx (pc := 53) dX8_clean_53 ?_
      refine j_top (show nI (76 + 4) = nI 80 from rfl) ?_
      refine j_iconst cx (pc := 54) (v := (nI 1)) dX8_clean_54 (by decide) ?_
      obtain ⟨V20, hV20⟩ : ∃ z, z = up1 V19 1 80 (nI 1) := ⟨_, rfl⟩
      refine j_iast cx (pc := 55) 0 1 0 rfl rfl rfl (by decide) (by decide) (Bs' := [moB Y mo V20]) (by rw [hV20]; rfl) dX8_clean_55 ?_
      refine j_iconst cx (pc := 56) (v := (nI 0)) dX8_clean_56 (by decide) ?_
      refine j_istore_n cx (pc := 57) (lv' := [(3, .int (nI 0)), (2, .int (nI 4)), (0, .ref (mo 0)), (1, .int stages)]) dX8_clean_57 (by decide) rfl ?_
      refine j_iload_n cx (pc := 58) dX8_clean_58 0 rfl ?_
      refine j_iconst cx (pc := 59) (v := (nI 2)) dX8_clean_59 (by decide) ?_
      refine j_icmpN_gt cx (pc := 60) (by decide) (by decide) (tgt := 83) dX8_clean_60 (by decide) (fun c60_24 => by exfalso; revert c60_24; decide) (fun c60_24 => ?_)
      refine j_aload_n cx (pc := 63) dX8_clean_63 2 rfl ?_
      refine j_get cx (pc := 64) 0 0 rfl rfl (C := RX8) (T := TX8) (N := 12) rfl hinX8 0 (by decide) f7 rfl (v := .ref (mo 1)) rfl dX8_clean_64 ?_
      refine j_bipush cx (pc := 67) (v := (nI 13)) dX8_clean_67 (by decide) ?_
      refine j_iconst cx (pc := 69) (v := (nI 3)) dX8_clean_69 (by decide) ?_
      refine j_iload_n cx (pc := 70) dX8_clean_70 1 rfl ?_
      refine j_imulN cx (pc := 71) dX8_clean_71 ?_
      refine j_top (show nI (3 * 4) = nI 12 from rfl) ?_
      refine j_iaddN cx (pc := 72) dX8_clean_72 ?_
      refine j_top (show nI (13 + 12) = nI 25 from rfl) ?_
      refine j_iload_n cx (pc := 73) dX8_clean_73 0 rfl ?_
      refine j_iaddN cx (pc := 74) dX8_clean_74 ?_
      refine j_top (show nI (25 + 0) = nI 25 from rfl) ?_
      refine j_iconst cx (pc := 75) (v := (nI 2)) dX8_clean_75 (by decide) ?_
      obtain ⟨V21, hV21⟩ : ∃ z, z = up1 V20 1 25 (nI 2) := ⟨_, rfl⟩
      refine j_iast cx (pc := 76) 0 1 0 rfl rfl rfl (by decide) (by decide) (Bs' := [moB Y mo V21]) (by rw [hV21]; rfl) dX8_clean_76 ?_
      refine j_iinc cx (pc := 77) (v := (nI 1)) (lv' := [(3, .int (nI 1)), (2, .int (nI 4)), (0, .ref (mo 0)), (1, .int stages)]) dX8_clean_77 0 rfl rfl (by decide) rfl ?_
      refine j_goto cx (pc := 80) (tgt := 58) dX8_clean_80 (by decide) ?_
      refine j_iload_n cx (pc := 58) dX8_clean_58 0 rfl ?_
      refine j_iconst cx (pc := 59) (v := (nI 2)) dX8_clean_59 (by decide) ?_
      refine j_icmpN_gt cx (pc := 60) (by decide) (by decide) (tgt := 83) dX8_clean_60 (by decide) (fun c60_25 => by exfalso; revert c60_25; decide) (fun c60_25 => ?_)
      refine j_aload_n cx (pc := 63) dX8_clean_63 2 rfl ?_
      refine j_get cx (pc := 64) 0 0 rfl rfl (C := RX8) (T := TX8) (N := 12) rfl hinX8 0 (by decide) f7 rfl (v := .ref (mo 1)) rfl dX8_clean_64 ?_
      refine j_bipush cx (pc := 67) (v := (nI 13)) dX8_clean_67 (by decide) ?_
      refine j_iconst cx (pc := 69) (v := (nI 3)) dX8_clean_69 (by decide) ?_
      refine j_iload_n cx (pc := 70) dX8_clean_70 1 rfl ?_
      refine j_imulN cx (pc := 71) dX8_clean_71 ?_
      refine j_top (show nI (3 * 4) = nI 12 from rfl) ?_
      refine j_iaddN cx (pc := 72) dX8_clean_72 ?_
      refine j_top (show nI (13 + 12) = nI 25 from rfl) ?_
      refine j_iload_n cx (pc := 73) dX8_clean_73 0 rfl ?_
      refine j_iaddN cx (pc := 74) dX8_clean_74 ?_
      refine j_top (show nI (25 + 1) = nI 26 from rfl) ?_
      refine j_iconst cx (pc := 75) (v := (nI 2)) dX8_clean_75 (by decide) ?_
      obtain ⟨V22, hV22⟩ : ∃ z, z = up1 V21 1 26 (nI 2) := ⟨_, rfl⟩
      refine j_iast cx (pc := 76) 0 1 0 rfl rfl rfl (by decide) (by decide) (Bs' := [moB Y mo V22]) (by rw [hV22]; rfl) dX8_clean_76 ?_
      refine j_iinc cx (pc := 77) (v := (nI 2)) (lv' := [(3, .int (nI 2)), (2, .int (nI 4)), (0, .ref (mo 0)), (1, .int stages)]) dX8_clean_77 0 rfl rfl (by decide) rfl ?_
      refine j_goto cx (pc := 80) (tgt := 58) dX8_clean_80 (by decide) ?_
      refine j_iload_n cx (pc := 58) dX8_clean_58 0 rfl ?_
      refine j_iconst cx (pc := 59) (v := (nI 2)) dX8_clean_59 (by decide) ?_
      refine j_icmpN_gt cx (pc := 60) (by decide) (by decide) (tgt := 83) dX8_clean_60 (by decide) (fun c60_26 => by exfalso; revert c60_26; decide) (fun c60_26 => ?_)
      refine j_aload_n cx (pc := 63) dX8_clean_63 2 rfl ?_
      refine j_get cx (pc := 64) 0 0 rfl rfl (C := RX8) (T := TX8) (N := 12) rfl hinX8 0 (by decide) f7 rfl (v := .ref (mo 1)) rfl dX8_clean_64 ?_
      refine j_bipush cx (pc := 67) (v := (nI 13)) dX8_clean_67 (by decide) ?_
      refine j_iconst cx (pc := 69) (v := (nI 3)) dX8_clean_69 (by decide) ?_
      refine j_iload_n cx (pc := 70) dX8_clean_70 1 rfl ?_
      refine j_imulN cx (pc := 71) dX8_clean_71 ?_
      refine j_top (show nI (3 * 4) = nI 12 from rfl) ?_
      refine j_iaddN cx (pc := 72) dX8_clean_72 ?_
      refine j_top (show nI (13 + 12) = nI 25 from rfl) ?_
      refine j_iload_n cx (pc := 73) dX8_clean_73 0 rfl ?_
      refine j_iaddN cx (pc := 74) dX8_clean_74 ?_
      refine j_top (show nI (25 + 2) = nI 27 from rfl) ?_
      refine j_iconst cx (pc := 75) (v := (nI 2)) dX8_clean_75 (by decide) ?_
      obtain ⟨V23, hV23⟩ : ∃ z, z = up1 V22 1 27 (nI 2) := ⟨_, rfl⟩
      refine j_iast cx (pc := 76) 0 1 0 rfl rfl rfl (by decide) (by decide) (Bs' := [moB Y mo V23]) (by rw [hV23]; rfl) dX8_clean_76 ?_
      refine j_iinc cx (pc := 77) (v := (nI 3)) (lv' := [(3, .int (nI 3)), (2, .int (nI 4)), (0, .ref (mo 0)), (1, .int stages)]) dX8_clean_77 0 rfl rfl (by decide) rfl ?_
      refine j_goto cx (pc := 80) (tgt := 58) dX8_clean_80 (by decide) ?_
      refine j_iload_n cx (pc := 58) dX8_clean_58 0 rfl ?_
      refine j_iconst cx (pc := 59) (v := (nI 2)) dX8_clean_59 (by decide) ?_
      refine j_icmpN_gt cx (pc := 60) (by decide) (by decide) (tgt := 83) dX8_clean_60 (by decide) (fun c60_27 => ?_) (fun c60_27 => by exfalso; revert c60_27; decide)
      refine j_iinc cx (pc := 83) (v := (nI 5)) (lv' := [(2, .int (nI 5)), (3, .int (nI 3)), (0, .ref (mo 0)), (1, .int stages)]) dX8_clean_83 1 rfl rfl (by decide) rfl ?_
      refine j_goto cx (pc := 86) (tgt := 40) dX8_clean_86 (by decide) ?_
      refine j_iload_n cx (pc := 40) dX8_clean_40 0 rfl ?_
      refine j_bipush cx (pc := 41) (v := (nI 6)) dX8_clean_41 (by decide) ?_
      refine j_icmpN_gt cx (pc := 43) (by decide) (by decide) (tgt := 89) dX8_clean_43 (by decide) (fun c43_28 => by exfalso; revert c43_28; decide) (fun c43_28 => ?_)
      refine j_aload_n cx (pc := 46) dX8_clean_46 2 rfl ?_
      refine j_get cx (pc := 47) 0 0 rfl rfl (C := RX8) (T := TX8) (N := 12) rfl hinX8 0 (by decide) f7 rfl (v := .ref (mo 1)) rfl dX8_clean_47 ?_
      refine j_bipush cx (pc := 50) (v := (nI 76)) dX8_clean_50 (by decide) ?_
      refine j_iload_n cx (pc := 52) dX8_clean_52 0 rfl ?_
      refine j_iaddN cx (pc := 53) dX8_clean_53 ?_
      refine j_top (show nI (76 + 5) = nI 81 from rfl) ?_
      refine j_iconst cx (pc := 54) (v := (nI 1)) dX8_clean_54 (by decide) ?_
      obtain ⟨V24, hV24⟩ : ∃ z, z = up1 V23 1 81 (nI 1) := ⟨_, rfl⟩
      refine j_iast cx (pc := 55) 0 1 0 rfl rfl rfl (by decide) (by decide) (Bs' := [moB Y mo V24]) (by rw [hV24]; rfl) dX8_clean_55 ?_
      refine j_iconst cx (pc := 56) (v := (nI 0)) dX8_clean_56 (by decide) ?_
      refine j_istore_n cx (pc := 57) (lv' := [(3, .int (nI 0)), (2, .int (nI 5)), (0, .ref (mo 0)), (1, .int stages)]) dX8_clean_57 (by decide) rfl ?_
      refine j_iload_n cx (pc := 58) dX8_clean_58 0 rfl ?_
      refine j_iconst cx (pc := 59) (v := (nI 2)) dX8_clean_59 (by decide) ?_
      refine j_icmpN_gt cx (pc := 60) (by decide) (by decide) (tgt := 83) dX8_clean_60 (by decide) (fun c60_29 => by exfalso; revert c60_29; decide) (fun c60_29 => ?_)
      refine j_aload_n cx (pc := 63) dX8_clean_63 2 rfl ?_
      refine j_get cx (pc := 64) 0 0 rfl rfl (C := RX8) (T := TX8) (N := 12) rfl hinX8 0 (by decide) f7 rfl (v := .ref (mo 1)) rfl dX8_clean_64 ?_
      refine j_bipush cx (pc := 67) (v := (nI 13)) dX8_clean_67 (by decide) ?_
      refine j_iconst cx (pc := 69) (v := (nI 3)) dX8_clean_69 (by decide) ?_
      refine j_iload_n cx (pc := 70) dX8_clean_70 1 rfl ?_
      refine j_imulN cx (pc := 71) dX8_clean_71 ?_
      refine j_top (show nI (3 * 5) = nI 15 from rfl) ?_
      refine j_iaddN cx (pc := 72) dX8_clean_72 ?_
      refine j_top (show nI (13 + 15) = nI 28 from rfl) ?_
      refine j_iload_n cx (pc := 73) dX8_clean_73 0 rfl ?_
      refine j_iaddN cx (pc := 74) dX8_clean_74 ?_
      refine j_top (show nI (28 + 0) = nI 28 from rfl) ?_
      refine j_iconst cx (pc := 75) (v := (nI 2)) dX8_clean_75 (by decide) ?_
      obtain ⟨V25, hV25⟩ : ∃ z, z = up1 V24 1 28 (nI 2) := ⟨_, rfl⟩
      refine j_iast cx (pc := 76) 0 1 0 rfl rfl rfl (by decide) (by decide) (Bs' := [moB Y mo V25]) (by rw [hV25]; rfl) dX8_clean_76 ?_
      refine j_iinc cx (pc := 77) (v := (nI 1)) (lv' := [(3, .int (nI 1)), (2, .int (nI 5)), (0, .ref (mo 0)), (1, .int stages)]) dX8_clean_77 0 rfl rfl (by decide) rfl ?_
      refine j_goto cx (pc := 80) (tgt := 58) dX8_clean_80 (by decide) ?_
      refine j_iload_n cx (pc := 58) dX8_clean_58 0 rfl ?_
      refine j_iconst cx (pc := 59) (v := (nI 2)) dX8_clean_59 (by decide) ?_
      refine j_icmpN_gt cx (pc := 60) (by decide) (by decide) (tgt := 83) dX8_clean_60 (by decide) (fun c60_30 => by exfalso; revert c60_30; decide) (fun c60_30 => ?_)
      refine j_aload_n cx (pc := 63) dX8_clean_63 2 rfl ?_
      refine j_get cx (pc := 64) 0 0 rfl rfl (C := RX8) (T := TX8) (N := 12) rfl hinX8 0 (by decide) f7 rfl (v := .ref (mo 1)) rfl dX8_clean_64 ?_
      refine j_bipush cx (pc := 67) (v := (nI 13)) dX8_clean_67 (by decide) ?_
      refine j_iconst cx (pc := 69) (v := (nI 3)) dX8_clean_69 (by decide) ?_
      refine j_iload_n cx (pc := 70) dX8_clean_70 1 rfl ?_
      refine j_imulN cx (pc := 71) dX8_clean_71 ?_
      refine j_top (show nI (3 * 5) = nI 15 from rfl) ?_
      refine j_iaddN cx (pc := 72) dX8_clean_72 ?_
      refine j_top (show nI (13 + 15) = nI 28 from rfl) ?_
      refine j_iload_n cx (pc := 73) dX8_clean_73 0 rfl ?_
      refine j_iaddN cx (pc := 74) dX8_clean_74 ?_
      refine j_top (show nI (28 + 1) = nI 29 from rfl) ?_
      refine j_iconst cx (pc := 75) (v := (nI 2)) dX8_clean_75 (by decide) ?_
      obtain ⟨V26, hV26⟩ : ∃ z, z = up1 V25 1 29 (nI 2) := ⟨_, rfl⟩
      refine j_iast cx (pc := 76) 0 1 0 rfl rfl rfl (by decide) (by decide) (Bs' := [moB Y mo V26]) (by rw [hV26]; rfl) dX8_clean_76 ?_
      refine j_iinc cx (pc := 77) (v := (nI 2)) (lv' := [(3, .int (nI 2)), (2, .int (nI 5)), (0, .ref (mo 0)), (1, .int stages)]) dX8_clean_77 0 rfl rfl (by decide) rfl ?_
      refine j_goto cx (pc := 80) (tgt := 58) dX8_clean_80 (by decide) ?_
      refine j_iload_n cx (pc := 58) dX8_clean_58 0 rfl ?_
      refine j_iconst cx (pc := 59) (v := (nI 2)) dX8_clean_59 (by decide) ?_
      refine j_icmpN_gt cx (pc := 60) (by decide) (by decide) (tgt := 83) dX8_clean_60 (by decide) (fun c60_31 => by exfalso; revert c60_31; decide) (fun c60_31 => ?_)
      refine j_aload_n cx (pc := 63) dX8_clean_63 2 rfl ?_
      refine j_get cx (pc := 64) 0 0 rfl rfl (C := RX8) (T := TX8) (N := 12) rfl hinX8 0 (by decide) f7 rfl (v := .ref (mo 1)) rfl dX8_clean_64 ?_
      refine j_bipush cx (pc := 67) (v := (nI 13)) dX8_clean_67 (by decide) ?_
      refine j_iconst cx (pc := 69) (v := (nI 3)) dX8_clean_69 (by decide) ?_
      refine j_iload_n cx (pc := 70) dX8_clean_70 1 rfl ?_
      refine j_imulN cx (pc := 71) dX8_clean_71 ?_
      refine j_top (show nI (3 * 5) = nI 15 from rfl) ?_
      refine j_iaddN cx (pc := 72) dX8_clean_72 ?_
      refine j_top (show nI (13 + 15) = nI 28 from rfl) ?_
      refine j_iload_n cx (pc := 73) dX8_clean_73 0 rfl ?_
      refine j_iaddN cx (pc := 74) dX8_clean_74 ?_
      refine j_top (show nI (28 + 2) = nI 30 from rfl) ?_
      refine j_iconst cx (pc := 75) (v := (nI 2)) dX8_clean_75 (by decide) ?_
      obtain ⟨V27, hV27⟩ : ∃ z, z = up1 V26 1 30 (nI 2) := ⟨_, rfl⟩
      refine j_iast cx (pc := 76) 0 1 0 rfl rfl rfl (by decide) (by decide) (Bs' := [moB Y mo V27]) (by rw [hV27]; rfl) dX8_clean_76 ?_
      refine j_iinc cx (pc := 77) (v := (nI 3)) (lv' := [(3, .int (nI 3)), (2, .int (nI 5)), (0, .ref (mo 0)), (1, .int stages)]) dX8_clean_77 0 rfl rfl (by decide) rfl ?_
      refine j_goto cx (pc := 80) (tgt := 58) dX8_clean_80 (by decide) ?_
      refine j_iload_n cx (pc := 58) dX8_clean_58 0 rfl ?_
      refine j_iconst cx (pc := 59) (v := (nI 2)) dX8_clean_59 (by decide) ?_
      refine j_icmpN_gt cx (pc := 60) (by decide) (by decide) (tgt := 83) dX8_clean_60 (by decide) (fun c60_32 => ?_) (fun c60_32 => by exfalso; revert c60_32; decide)
      refine j_iinc cx (pc := 83) (v := (nI 6)) (lv' := [(2, .int (nI 6)), (3, .int (nI 3)), (0, .ref (mo 0)), (1, .int stages)]) dX8_clean_83 1 rfl rfl (by decide) rfl ?_
      refine j_goto cx (pc := 86) (tgt := 40) dX8_clean_86 (by decide) ?_
      refine j_iload_n cx (pc := 40) dX8_clean_40 0 rfl ?_
      refine j_bipush cx (pc := 41) (v := (nI 6)) dX8_clean_41 (by decide) ?_
      refine j_icmpN_gt cx (pc := 43) (by decide) (by decide) (tgt := 89) dX8_clean_43 (by decide) (fun c43_33 => by exfalso; revert c43_33; decide) (fun c43_33 => ?_)
      refine j_aload_n cx (pc := 46) dX8_clean_46 2 rfl ?_
      refine j_get cx (pc := 47) 0 0 rfl rfl (C := RX8) (T := TX8) (N := 12) rfl hinX8 0 (by decide) f7 rfl (v := .ref (mo 1)) rfl dX8_clean_47 ?_
      refine j_bipush cx (pc := 50) (v := (nI 76)) dX8_clean_50 (by decide) ?_
      refine j_iload_n cx (pc := 52) dX8_clean_52 0 rfl ?_
      refine j_iaddN cx (pc := 53) dX8_clean_53 ?_
      refine j_top (show nI (76 + 6) = nI 82 from rfl) ?_
      refine j_iconst cx (pc := 54) (v := (nI 1)) dX8_clean_54 (by decide) ?_
      obtain ⟨V28, hV28⟩ : ∃ z, z = up1 V27 1 82 (nI 1) := ⟨_, rfl⟩
      refine j_iast cx (pc := 55) 0 1 0 rfl rfl rfl (by decide) (by decide) (Bs' := [moB Y mo V28]) (by rw [hV28]; rfl) dX8_clean_55 ?_
      refine j_iconst cx (pc := 56) (v := (nI 0)) dX8_clean_56 (by decide) ?_
      refine j_istore_n cx (pc := 57) (lv' := [(3, .int (nI 0)), (2, .int (nI 6)), (0, .ref (mo 0)), (1, .int stages)]) dX8_clean_57 (by decide) rfl ?_
      refine j_iload_n cx (pc := 58) dX8_clean_58 0 rfl ?_
      refine j_iconst cx (pc := 59) (v := (nI 2)) dX8_clean_59 (by decide) ?_
      refine j_icmpN_gt cx (pc := 60) (by decide) (by decide) (tgt := 83) dX8_clean_60 (by decide) (fun c60_34 => by exfalso; revert c60_34; decide) (fun c60_34 => ?_)
      refine j_aload_n cx (pc := 63) dX8_clean_63 2 rfl ?_
      refine j_get cx (pc := 64) 0 0 rfl rfl (C := RX8) (T := TX8) (N := 12) rfl hinX8 0 (by decide) f7 rfl (v := .ref (mo 1)) rfl dX8_clean_64 ?_
      refine j_bipush cx (pc := 67) (v := (nI 13)) dX8_clean_67 (by decide) ?_
      refine j_iconst cx (pc := 69) (v := (nI 3)) dX8_clean_69 (by decide) ?_
      refine j_iload_n cx (pc := 70) dX8_clean_70 1 rfl ?_
      refine j_imulN cx (pc := 71) dX8_clean_71 ?_
      refine j_top (show nI (3 * 6) = nI 18 from rfl) ?_
      refine j_iaddN cx (pc := 72) dX8_clean_72 ?_
      refine j_top (show nI (13 + 18) = nI 31 from rfl) ?_
      refine j_iload_n cx (pc := 73) dX8_clean_73 0 rfl ?_
      refine j_iaddN cx (pc := 74) dX8_clean_74 ?_
      refine j_top (show nI (31 + 0) = nI 31 from rfl) ?_
      refine j_iconst cx (pc := 75) (v := (nI 2)) dX8_clean_75 (by decide) ?_
      obtain ⟨V29, hV29⟩ : ∃ z, z = up1 V28 1 31 (nI 2) := ⟨_, rfl⟩
      refine j_iast cx (pc := 76) 0 1 0 rfl rfl rfl (by decide) (by decide) (Bs' := [moB Y mo V29]) (by rw [hV29]; rfl) dX8_clean_76 ?_
      refine j_iinc cx (pc := 77) (v := (nI 1)) (lv' := [(3, .int (nI 1)), (2, .int (nI 6)), (0, .ref (mo 0)), (1, .int stages)]) dX8_clean_77 0 rfl rfl (by decide) rfl ?_
      refine j_goto cx (pc := 80) (tgt := 58) dX8_clean_80 (by decide) ?_
      refine j_iload_n cx (pc := 58) dX8_clean_58 0 rfl ?_
      refine j_iconst cx (pc := 59) (v := (nI 2)) dX8_clean_59 (by decide) ?_
      refine j_icmpN_gt cx (pc := 60) (by decide) (by decide) (tgt := 83) dX8_clean_60 (by decide) (fun c60_35 => by exfalso; revert c60_35; decide) (fun c60_35 => ?_)
      refine j_aload_n cx (pc := 63) dX8_clean_63 2 rfl ?_
      refine j_get cx (pc := 64) 0 0 rfl rfl (C := RX8) (T := TX8) (N := 12) rfl hinX8 0 (by decide) f7 rfl (v := .ref (mo 1)) rfl dX8_clean_64 ?_
      refine j_bipush cx (pc := 67) (v := (nI 13)) dX8_clean_67 (by decide) ?_
      refine j_iconst cx (pc := 69) (v := (nI 3)) dX8_clean_69 (by decide) ?_
      refine j_iload_n cx (pc := 70) dX8_clean_70 1 rfl ?_
      refine j_imulN cx (pc := 71) dX8_clean_71 ?_
      refine j_top (show nI (3 * 6) = nI 18 from rfl) ?_
      refine j_iaddN cx (pc := 72) dX8_clean_72 ?_
      refine j_top (show nI (13 + 18) = nI 31 from rfl) ?_
      refine j_iload_n cx (pc := 73) dX8_clean_73 0 rfl ?_
      refine j_iaddN cx (pc := 74) dX8_clean_74 ?_
      refine j_top (show nI (31 + 1) = nI 32 from rfl) ?_
      refine j_iconst cx (pc := 75) (v := (nI 2)) dX8_clean_75 (by decide) ?_
      obtain ⟨V30, hV30⟩ : ∃ z, z = up1 V29 1 32 (nI 2) := ⟨_, rfl⟩
      refine j_iast cx (pc := 76) 0 1 0 rfl rfl rfl (by decide) (by decide) (Bs' := [moB Y mo V30]) (by rw [hV30]; rfl) dX8_clean_76 ?_
      refine j_iinc cx (pc := 77) (v := (nI 2)) (lv' := [(3, .int (nI 2)), (2, .int (nI 6)), (0, .ref (mo 0)), (1, .int stages)]) dX8_clean_77 0 rfl rfl (by decide) rfl ?_
      refine j_goto cx (pc := 80) (tgt := 58) dX8_clean_80 (by decide) ?_
      refine j_iload_n cx (pc := 58) dX8_clean_58 0 rfl ?_
      refine j_iconst cx (pc := 59) (v := (nI 2)) dX8_clean_59 (by decide) ?_
      refine j_icmpN_gt cx (pc := 60) (by decide) (by decide) (tgt := 83) dX8_clean_60 (by decide) (fun c60_36 => by exfalso; revert c60_36; decide) (fun c60_36 => ?_)
      refine j_aload_n cx (pc := 63) dX8_clean_63 2 rfl ?_
      refine j_get cx (pc := 64) 0 0 rfl rfl (C := RX8) (T := TX8) (N := 12) rfl hinX8 0 (by decide) f7 rfl (v := .ref (mo 1)) rfl dX8_clean_64 ?_
      refine j_bipush cx (pc := 67) (v := (nI 13)) dX8_clean_67 (by decide) ?_
      refine j_iconst cx (pc := 69) (v := (nI 3)) dX8_clean_69 (by decide) ?_
      refine j_iload_n cx (pc := 70) dX8_clean_70 1 rfl ?_
      refine j_imulN cx (pc := 71) dX8_clean_71 ?_
      refine j_top (show nI (3 * 6) = nI 18 from rfl) ?_
      refine j_iaddN cx (pc := 72) dX8_clean_72 ?_
      refine j_top (show nI (13 + 18) = nI 31 from rfl) ?_
      refine j_iload_n cx (pc := 73) dX8_clean_73 0 rfl ?_
      refine j_iaddN cx (pc := 74) dX8_clean_74 ?_
      refine j_top (show nI (31 + 2) = nI 33 from rfl) ?_
      refine j_iconst cx (pc := 75) (v := (nI 2)) dX8_clean_75 (by decide) ?_
      obtain ⟨V31, hV31⟩ : ∃ z, z = up1 V30 1 33 (nI 2) := ⟨_, rfl⟩
      refine j_iast cx (pc := 76) 0 1 0 rfl rfl rfl (by decide) (by decide) (Bs' := [moB Y mo V31]) (by rw [hV31]; rfl) dX8_clean_76 ?_
      refine j_iinc cx (pc := 77) (v := (nI 3)) (lv' := [(3, .int (nI 3)), (2, .int (nI 6)), (0, .ref (mo 0)), (1, .int stages)]) dX8_clean_77 0 rfl rfl (by decide) rfl ?_
      refine j_goto cx (pc := 80) (tgt := 58) dX8_clean_80 (by decide) ?_
      refine j_iload_n cx (pc := 58) dX8_clean_58 0 rfl ?_
      refine j_iconst cx (pc := 59) (v := (nI 2)) dX8_clean_59 (by decide) ?_
      refine j_icmpN_gt cx (pc := 60) (by decide) (by decide) (tgt := 83) dX8_clean_60 (by decide) (fun c60_37 => ?_) (fun c60_37 => by exfalso; revert c60_37; decide)
      refine j_iinc cx (pc := 83) (v := (nI 7)) (lv' := [(2, .int (nI 7)), (3, .int (nI 3)), (0, .ref (mo 0)), (1, .int stages)]) dX8_clean_83 1 rfl rfl (by decide) rfl ?_
      refine j_goto cx (pc := 86) (tgt := 40) dX8_clean_86 (by decide) ?_
      refine j_iload_n cx (pc := 40) dX8_clean_40 0 rfl ?_
      refine j_bipush cx (pc := 41) (v := (nI 6)) dX8_clean_41 (by decide) ?_
      refine j_icmpN_gt cx (pc := 43) (by decide) (by decide) (tgt := 89) dX8_clean_43 (by decide) (fun c43_38 => ?_) (fun c43_38 => by exfalso; revert c43_38; decide)
      subst hQ; exact j_vret cx hr (by subst hV31; subst hV30; subst hV29; subst hV28; subst hV27; subst hV26; subst hV25; subst hV24; subst hV23; subst hV22; subst hV21; subst hV20; subst hV19; subst hV18; subst hV17; subst hV16; subst hV15; subst hV14; subst hV13; subst hV12; subst hV11; subst hV10; subst hV9; subst hV8; subst hV7; subst hV6; subst hV5; subst hV4; subst hV3; subst hV2; subst hV1; rfl) hA dX8_clean_89
    | succ n ih =>
      intro i hi h0
      obtain ⟨V32, hV32⟩ : ∃ z, z = setC M 1 (zer (M 1) 3 i) := ⟨_, rfl⟩
      refine j_bs (Bs' := [moB Y mo V32]) (by rw [hV32]) ?_
      refine j_iload_n cx (pc := 2) dX8_clean_2 0 rfl ?_
      refine j_sipush cx (pc := 3) (v := (nI 719)) dX8_clean_3 (by decide) ?_
      refine j_icmpN_ge cx (pc := 6) (by omega) (by decide) (tgt := 22) dX8_clean_6 (by decide) (fun c6_39 => by exfalso; omega) (fun c6_39 => ?_)
      refine j_aload_n cx (pc := 9) dX8_clean_9 1 rfl ?_
      refine j_get cx (pc := 10) 0 0 rfl rfl (C := RX8) (T := TX8) (N := 12) rfl hinX8 0 (by decide) f7 rfl (v := .ref (mo 1)) rfl dX8_clean_10 ?_
      refine j_iload_n cx (pc := 13) dX8_clean_13 0 rfl ?_
      refine j_iconst cx (pc := 14) (v := (nI 0)) dX8_clean_14 (by decide) ?_
      obtain ⟨V33, hV33⟩ : ∃ z, z = up1 V32 1 i (nI 0) := ⟨_, rfl⟩
      refine j_iast cx (pc := 15) 0 1 0 rfl rfl rfl (by omega) (by decide) (Bs' := [moB Y mo V33]) (by rw [hV33]; rfl) dX8_clean_15 ?_
      refine j_iinc cx (pc := 16) (v := (nI (i + 1))) (lv' := [(2, .int (nI (i + 1))), (0, .ref (mo 0)), (1, .int stages)]) dX8_clean_16 0 rfl (show nI i + nI 1 = nI (i + 1) from nI_add _ _) (by decide) rfl ?_
      refine j_goto cx (pc := 19) (tgt := 2) dX8_clean_19 (by decide) ?_
      refine j_lvm (lv' := [(2, .int (nI (i + 1))), (0, .ref (mo 0)), (1, .int stages)]) (by intro z hz; simp only [List.mem_cons, List.not_mem_nil, or_false] at hz ⊢; rcases hz with rfl | rfl | rfl <;> simp) ?_
      refine j_bs (Bs' := [moB Y mo (setC M 1 (zer (M 1) 3 (i + 1)))]) (by subst hV33; subst hV32; rw [zer_s M 1 3 i h0]) ?_
      exact ih (i + 1) (by omega) (by omega)
  refine j_bs (Bs' := [moB Y mo (setC M 1 (zer (M 1) 3 3))]) (by rw [zer_0 M 1 3]) ?_
  refine j_lvm (lv' := [(2, .int (nI 3)), (0, .ref (mo 0)), (1, .int stages)]) (by intro z hz; simp only [List.mem_cons, List.not_mem_nil, or_false] at hz ⊢; rcases hz with rfl | rfl | rfl <;> simp) ?_
  exact lp1 (719 - 3) 3 (by omega) (Nat.le_refl _)
