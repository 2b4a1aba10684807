def C3_clear (U : Nat → Nat → Int32)  : Nat → Nat → Int32 :=
  let V1 := up1 U 1 0 (nI 2)
  let V2 := up1 V1 1 1 (nI 2)
  let V3 := up1 V2 1 2 (nI 2)
  let V4 := up1 V3 0 0 (nI 0)
  let V5 := up1 V4 0 1 (nI 0)
  let V6 := up1 V5 0 2 (nI 0)
  let V7 := up1 V6 0 3 (nI 0)
  let V8 := up1 V7 0 4 (nI 0)
  let V9 := up1 V8 0 5 (nI 0)
  let V10 := up1 V9 0 6 (nI 1)
  let V11 := up1 V10 0 7 (nI 0)
  let V12 := up1 V11 0 8 (nI 0)
  V12
set_option maxHeartbeats 4000000 in
set_option maxRecDepth 100000 in
theorem c_X3_clear (l : Launch) (D : va_G) (Y : Nat → ClassId) (a1 a2 : Nat) (U : Nat → Nat → Int32)   : CtV l yX3_clear wsX3_clear 0 0 D (tyL Y) ([lkB (Y 0) a1 a2 (U 0) (U 1)]) [.ref a1] ([lkB (Y 0) a1 a2 ((C3_clear U ) 0) ((C3_clear U ) 1)]) := by
  refine CtV.intro (own := RX3) (cc := cX3_clear) (maxL := 2) rfl (by decide +kernel) rfl (Nat.le_of_ble_eq_true rfl) (fun p e s m args below meth c A Q hA hQ cx hr => ?_)
  have hinX3 : ∀ w ∈ wsX30, w ∈ wsX3_clear := by decide +kernel
  have f9 : Cond.fieldLink RX3 9 "FourPhases$Link" "delays" "[I" ∈ wsX3_clear := by decide +kernel
  have f15 : Cond.fieldLink RX3 15 "FourPhases$Link" "requestAtBeginning" "I" ∈ wsX3_clear := by decide +kernel
  have f19 : Cond.fieldLink RX3 19 "FourPhases$Link" "requestAtEnd" "I" ∈ wsX3_clear := by decide +kernel
  have f22 : Cond.fieldLink RX3 22 "FourPhases$Link" "answerAtEnd" "I" ∈ wsX3_clear := by decide +kernel
  have f25 : Cond.fieldLink RX3 25 "FourPhases$Link" "answerAtBeginning" "I" ∈ wsX3_clear := by decide +kernel
  have f28 : Cond.fieldLink RX3 28 "FourPhases$Link" "dataAtBeginning" "I" ∈ wsX3_clear := by decide +kernel
  have f31 : Cond.fieldLink RX3 31 "FourPhases$Link" "dataAtEnd" "I" ∈ wsX3_clear := by decide +kernel
  have f34 : Cond.fieldLink RX3 34 "FourPhases$Link" "atRest" "Z" ∈ wsX3_clear := by decide +kernel
  have f38 : Cond.fieldLink RX3 38 "FourPhases$Link" "requestWaits" "Z" ∈ wsX3_clear := by decide +kernel
  have f41 : Cond.fieldLink RX3 41 "FourPhases$Link" "offeredWords" "I" ∈ wsX3_clear := by decide +kernel
  refine j_iconst cx (pc := 0) (v := (nI 0)) dX3_clear_0 (by decide) ?_
  refine j_istore_n cx (pc := 1) (lv' := [(1, .int (nI 0)), (0, .ref a1)]) dX3_clear_1 (by decide) rfl ?_
  refine j_iload_n cx (pc := 2) dX3_clear_2 0 rfl ?_
  refine j_iconst cx (pc := 3) (v := (nI 3)) dX3_clear_3 (by decide) ?_
  refine j_icmpN_ge cx (pc := 4) (by decide) (by decide) (tgt := 20) dX3_clear_4 (by decide) (fun c4_1 => by exfalso; revert c4_1; decide) (fun c4_1 => ?_)
  refine j_aload_n cx (pc := 7) dX3_clear_7 1 rfl ?_
  refine j_get cx (pc := 8) 0 0 rfl rfl (C := RX3) (T := TX3) (N := 10) rfl hinX3 0 (by decide) f9 rfl (v := .ref a2) rfl dX3_clear_8 ?_
  refine j_iload_n cx (pc := 11) dX3_clear_11 0 rfl ?_
  refine j_iconst cx (pc := 12) (v := (nI 2)) dX3_clear_12 (by decide) ?_
  obtain ⟨V1, hV1⟩ : ∃ z, z = up1 U 1 0 (nI 2) := ⟨_, rfl⟩
  refine j_iast cx (pc := 13) 0 1 0 rfl rfl rfl (by decide) (by decide) (Bs' := [lkB (Y 0) a1 a2 (V1 0) (V1 1)]) (by rw [hV1]; rfl) dX3_clear_13 ?_
  refine j_iinc cx (pc := 14) (v := (nI 1)) (lv' := [(1, .int (nI 1)), (0, .ref a1)]) dX3_clear_14 0 rfl rfl (by decide) rfl ?_
  refine j_goto cx (pc := 17) (tgt := 2) dX3_clear_17 (by decide) ?_
  refine j_iload_n cx (pc := 2) dX3_clear_2 0 rfl ?_
  refine j_iconst cx (pc := 3) (v := (nI 3)) dX3_clear_3 (by decide) ?_
  refine j_icmpN_ge cx (pc := 4) (by decide) (by decide) (tgt := 20) dX3_clear_4 (by decide) (fun c4_2 => by exfalso; revert c4_2; decide) (fun c4_2 => ?_)
  refine j_aload_n cx (pc := 7) dX3_clear_7 1 rfl ?_
  refine j_get cx (pc := 8) 0 0 rfl rfl (C := RX3) (T := TX3) (N := 10) rfl hinX3 0 (by decide) f9 rfl (v := .ref a2) rfl dX3_clear_8 ?_
  refine j_iload_n cx (pc := 11) dX3_clear_11 0 rfl ?_
  refine j_iconst cx (pc := 12) (v := (nI 2)) dX3_clear_12 (by decide) ?_
  obtain ⟨V2, hV2⟩ : ∃ z, z = up1 V1 1 1 (nI 2) := ⟨_, rfl⟩
  refine j_iast cx (pc := 13) 0 1 0 rfl rfl rfl (by decide) (by decide) (Bs' := [lkB (Y 0) a1 a2 (V2 0) (V2 1)]) (by rw [hV2]; rfl) dX3_clear_13 ?_
  refine j_iinc cx (pc := 14) (v := (nI 2)) (lv' := [(1, .int (nI 2)), (0, .ref a1)]) dX3_clear_14 0 rfl rfl (by decide) rfl ?_
  refine j_goto cx (pc := 17) (tgt := 2) dX3_clear_17 (by decide) ?_
  refine j_iload_n cx (pc := 2) dX3_clear_2 0 rfl ?_
  refine j_iconst cx (pc := 3) (v := (nI 3)) dX3_clear_3 (by decide) ?_
  refine j_icmpN_ge cx (pc := 4) (by decide) (by decide) (tgt := 20) dX3_clear_4 (by decide) (fun c4_3 => by exfalso; revert c4_3; decide) (fun c4_3 => ?_)
  refine j_aload_n cx (pc := 7) dX3_clear_7 1 rfl ?_
  refine j_get cx (pc := 8) 0 0 rfl rfl (C := RX3) (T := TX3) (N := 10) rfl hinX3 0 (by decide) f9 rfl (v := .ref a2) rfl dX3_clear_8 ?_
  refine j_iload_n cx (pc := 11) dX3_clear_11 0 rfl ?_
  refine j_iconst cx (pc := 12) (v := (nI 2)) dX3_clear_12 (by decide) ?_
  obtain ⟨V3, hV3⟩ : ∃ z, z = up1 V2 1 2 (nI 2) := ⟨_, rfl⟩
  refine j_iast cx (pc := 13) 0 1 0 rfl rfl rfl (by decide) (by decide) (Bs' := [lkB (Y 0) a1 a2 (V3 0) (V3 1)]) (by rw [hV3]; rfl) dX3_clear_13 ?_
  refine j_iinc cx (pc := 14) (v := (nI 3)) (lv' := [(1, .int (nI 3)), (0, .ref a1)]) dX3_clear_14 0 rfl rfl (by decide) rfl ?_
  refine j_goto cx (pc := 17) (tgt := 2) dX3_clear_17 (by decide) ?_
  refine j_iload_n cx (pc := 2) dX3_clear_2 0 rfl ?_
  refine j_iconst cx (pc := 3) (v := (nI 3)) dX3_clear_3 (by decide) ?_
  refine j_icmpN_ge cx (pc := 4) (by decide) (by decide) (tgt := 20) dX3_clear_4 (by decide) (fun c4_4 => ?_) (fun c4_4 => by exfalso; revert c4_4; decide)
  refine j_aload_n cx (pc := 20) dX3_clear_20 1 rfl ?_
  refine j_iconst cx (pc := 21) (v := (nI 0)) dX3_clear_21 (by decide) ?_
  obtain ⟨V4, hV4⟩ : ∃ z, z = up1 V3 0 0 (nI 0) := ⟨_, rfl⟩
  refine j_put cx (pc := 22) 0 0 rfl rfl (C := RX3) (T := TX3) (N := 10) rfl hinX3 tyX3 tyX3_ok nmX3 1 (by decide) f15 rfl rfl rfl rfl (Nat.le_of_ble_eq_true rfl) (Bs' := [lkB (Y 0) a1 a2 (V4 0) (V4 1)]) (by rw [hV4]; rfl) dX3_clear_22 ?_
  refine j_aload_n cx (pc := 25) dX3_clear_25 1 rfl ?_
  refine j_iconst cx (pc := 26) (v := (nI 0)) dX3_clear_26 (by decide) ?_
  obtain ⟨V5, hV5⟩ : ∃ z, z = up1 V4 0 1 (nI 0) := ⟨_, rfl⟩
  refine j_put cx (pc := 27) 0 0 rfl rfl (C := RX3) (T := TX3) (N := 10) rfl hinX3 tyX3 tyX3_ok nmX3 2 (by decide) f19 rfl rfl rfl rfl (Nat.le_of_ble_eq_true rfl) (Bs' := [lkB (Y 0) a1 a2 (V5 0) (V5 1)]) (by rw [hV5]; rfl) dX3_clear_27 ?_
  refine j_aload_n cx (pc := 30) dX3_clear_30 1 rfl ?_
  refine j_iconst cx (pc := 31) (v := (nI 0)) dX3_clear_31 (by decide) ?_
  obtain ⟨V6, hV6⟩ : ∃ z, z = up1 V5 0 2 (nI 0) := ⟨_, rfl⟩
  refine j_put cx (pc := 32) 0 0 rfl rfl (C := RX3) (T := TX3) (N := 10) rfl hinX3 tyX3 tyX3_ok nmX3 3 (by decide) f22 rfl rfl rfl rfl (Nat.le_of_ble_eq_true rfl) (Bs' := [lkB (Y 0) a1 a2 (V6 0) (V6 1)]) (by rw [hV6]; rfl) dX3_clear_32 ?_
  refine j_aload_n cx (pc := 35) dX3_clear_35 1 rfl ?_
  refine j_iconst cx (pc := 36) (v := (nI 0)) dX3_clear_36 (by decide) ?_
  obtain ⟨V7, hV7⟩ : ∃ z, z = up1 V6 0 3 (nI 0) := ⟨_, rfl⟩
  refine j_put cx (pc := 37) 0 0 rfl rfl (C := RX3) (T := TX3) (N := 10) rfl hinX3 tyX3 tyX3_ok nmX3 4 (by decide) f25 rfl rfl rfl rfl (Nat.le_of_ble_eq_true rfl) (Bs' := [lkB (Y 0) a1 a2 (V7 0) (V7 1)]) (by rw [hV7]; rfl) dX3_clear_37 ?_
  refine j_aload_n cx (pc := 40) dX3_clear_40 1 rfl ?_
  refine j_iconst cx (pc := 41) (v := (nI 0)) dX3_clear_41 (by decide) ?_
  obtain ⟨V8, hV8⟩ : ∃ z, z = up1 V7 0 4 (nI 0) := ⟨_, rfl⟩
  refine j_put cx (pc := 42) 0 0 rfl rfl (C := RX3) (T := TX3) (N := 10) rfl hinX3 tyX3 tyX3_ok nmX3 5 (by decide) f28 rfl rfl rfl rfl (Nat.le_of_ble_eq_true rfl) (Bs' := [lkB (Y 0) a1 a2 (V8 0) (V8 1)]) (by rw [hV8]; rfl) dX3_clear_42 ?_
  refine j_aload_n cx (pc := 45) dX3_clear_45 1 rfl ?_
  refine j_iconst cx (pc := 46) (v := (nI 0)) dX3_clear_46 (by decide) ?_
  obtain ⟨V9, hV9⟩ : ∃ z, z = up1 V8 0 5 (nI 0) := ⟨_, rfl⟩
  refine j_put cx (pc := 47) 0 0 rfl rfl (C := RX3) (T := TX3) (N := 10) rfl hinX3 tyX3 tyX3_ok nmX3 6 (by decide) f31 rfl rfl rfl rfl (Nat.le_of_ble_eq_true rfl) (Bs' := [lkB (Y 0) a1 a2 (V9 0) (V9 1)]) (by rw [hV9]; rfl) dX3_clear_47 ?_
  refine j_aload_n cx (pc := 50) dX3_clear_50 1 rfl ?_
  refine j_iconst cx (pc := 51) (v := (nI 1)) dX3_clear_51 (by decide) ?_
  obtain ⟨V10, hV10⟩ : ∃ z, z = up1 V9 0 6 (nI 1) := ⟨_, rfl⟩
  refine j_put cx (pc := 52) 0 0 rfl rfl (C := RX3) (T := TX3) (N := 10) rfl hinX3 tyX3 tyX3_ok nmX3 7 (by decide) f34 rfl rfl rfl rfl (Nat.le_of_ble_eq_true rfl) (Bs' := [lkB (Y 0) a1 a2 (V10 0) (V10 1)]) (by rw [hV10]; rfl) dX3_clear_52 ?_
  refine j_aload_n cx (pc := 55) dX3_clear_55 1 rfl ?_
  refine j_iconst cx (pc := 56) (v := (nI 0)) dX3_clear_56 (by decide) ?_
  obtain ⟨V11, hV11⟩ : ∃ z, z = up1 V10 0 7 (nI 0) := ⟨_, rfl⟩
  refine j_put cx (pc := 57) 0 0 rfl rfl (C := RX3) (T := TX3) (N := 10) rfl hinX3 tyX3 tyX3_ok nmX3 8 (by decide) f38 rfl rfl rfl rfl (Nat.le_of_ble_eq_true rfl) (Bs' := [lkB (Y 0) a1 a2 (V11 0) (V11 1)]) (by rw [hV11]; rfl) dX3_clear_57 ?_
  refine j_aload_n cx (pc := 60) dX3_clear_60 1 rfl ?_
  refine j_iconst cx (pc := 61) (v := (nI 0)) dX3_clear_61 (by decide) ?_
  obtain ⟨V12, hV12⟩ : ∃ z, z = up1 V11 0 8 (nI 0) := ⟨_, rfl⟩
  refine j_put cx (pc := 62) 0 0 rfl rfl (C := RX3) (T := TX3) (N := 10) rfl hinX3 tyX3 tyX3_ok nmX3 9 (by decide) f41 rfl rfl rfl rfl (Nat.le_of_ble_eq_true rfl) (Bs' := [lkB (Y 0) a1 a2 (V12 0) (V12 1)]) (by rw [hV12]; rfl) dX3_clear_62 ?_
  subst hQ; exact j_vret cx hr (by subst hV12; subst hV11; subst hV10; subst hV9; subst hV8; subst hV7; subst hV6; subst hV5; subst hV4; subst hV3; subst hV2; subst hV1; rfl) hA dX3_clear_65
def C3_copyFrom (U : Nat → Nat → Int32) (W : Nat → Nat → Int32)  : Nat → Nat → Int32 :=
  let V1 := setC U 1 (va_cpy (W 1) (U 1) 0 0 3)
  let V2 := up1 V1 0 0 (W 0 0)
  let V3 := up1 V2 0 1 (W 0 1)
  let V4 := up1 V3 0 2 (W 0 2)
  let V5 := up1 V4 0 3 (W 0 3)
  let V6 := up1 V5 0 4 (W 0 4)
  let V7 := up1 V6 0 5 (W 0 5)
  let V8 := up1 V7 0 6 (W 0 6)
  let V9 := up1 V8 0 7 (W 0 7)
  let V10 := up1 V9 0 8 (W 0 8)
  V10
set_option maxHeartbeats 4000000 in
set_option maxRecDepth 100000 in
theorem c_X3_copyFrom (l : Launch) (D : va_G) (Y : Nat → ClassId) (a1 a2 : Nat) (U : Nat → Nat → Int32) (a1b a2b : Nat) (W : Nat → Nat → Int32)  (hb1 : narrow .boolean (.int (W 0 6)) = .int (W 0 6) ∧ fits .boolean (.int (W 0 6)) = true) (hb2 : narrow .boolean (.int (W 0 7)) = .int (W 0 7) ∧ fits .boolean (.int (W 0 7)) = true) : CtV l yX3_copyFrom wsX3_copyFrom 1 40 D (tyL Y) ([lkB (Y 0) a1 a2 (U 0) (U 1)] ++ [lkB (Y 0) a1b a2b (W 0) (W 1)]) [.ref a1, .ref a1b] ([lkB (Y 0) a1 a2 ((C3_copyFrom U W ) 0) ((C3_copyFrom U W ) 1)] ++ [lkB (Y 0) a1b a2b (W 0) (W 1)]) := by
  refine CtV.intro (own := RX3) (cc := cX3_copyFrom) (maxL := 2) rfl (by decide +kernel) rfl (Nat.le_of_ble_eq_true rfl) (fun p e s m args below meth c A Q hA hQ cx hr => ?_)
  have hinX3 : ∀ w ∈ wsX30, w ∈ wsX3_copyFrom := by decide +kernel
  have f9 : Cond.fieldLink RX3 9 "FourPhases$Link" "delays" "[I" ∈ wsX3_copyFrom := by decide +kernel
  have f15 : Cond.fieldLink RX3 15 "FourPhases$Link" "requestAtBeginning" "I" ∈ wsX3_copyFrom := by decide +kernel
  have f19 : Cond.fieldLink RX3 19 "FourPhases$Link" "requestAtEnd" "I" ∈ wsX3_copyFrom := by decide +kernel
  have f22 : Cond.fieldLink RX3 22 "FourPhases$Link" "answerAtEnd" "I" ∈ wsX3_copyFrom := by decide +kernel
  have f25 : Cond.fieldLink RX3 25 "FourPhases$Link" "answerAtBeginning" "I" ∈ wsX3_copyFrom := by decide +kernel
  have f28 : Cond.fieldLink RX3 28 "FourPhases$Link" "dataAtBeginning" "I" ∈ wsX3_copyFrom := by decide +kernel
  have f31 : Cond.fieldLink RX3 31 "FourPhases$Link" "dataAtEnd" "I" ∈ wsX3_copyFrom := by decide +kernel
  have f34 : Cond.fieldLink RX3 34 "FourPhases$Link" "atRest" "Z" ∈ wsX3_copyFrom := by decide +kernel
  have f38 : Cond.fieldLink RX3 38 "FourPhases$Link" "requestWaits" "Z" ∈ wsX3_copyFrom := by decide +kernel
  have f41 : Cond.fieldLink RX3 41 "FourPhases$Link" "offeredWords" "I" ∈ wsX3_copyFrom := by decide +kernel
  refine j_aload_n cx (pc := 0) dX3_copyFrom_0 1 rfl ?_
  refine j_get cx (pc := 1) 1 0 rfl rfl (C := RX3) (T := TX3) (N := 10) rfl hinX3 0 (by decide) f9 rfl (v := .ref a2b) rfl dX3_copyFrom_1 ?_
  refine j_iconst cx (pc := 4) (v := (nI 0)) dX3_copyFrom_4 (by decide) ?_
  refine j_aload_n cx (pc := 5) dX3_copyFrom_5 0 rfl ?_
  refine j_get cx (pc := 6) 0 0 rfl rfl (C := RX3) (T := TX3) (N := 10) rfl hinX3 0 (by decide) f9 rfl (v := .ref a2) rfl dX3_copyFrom_6 ?_
  refine j_iconst cx (pc := 9) (v := (nI 0)) dX3_copyFrom_9 (by decide) ?_
  refine j_iconst cx (pc := 10) (v := (nI 3)) dX3_copyFrom_10 (by decide) ?_
  obtain ⟨V1, hV1⟩ : ∃ z, z = setC U 1 (va_cpy (W 1) (U 1) 0 0 3) := ⟨_, rfl⟩
  refine j_copy cx (pc := 11) (show Cond.methodLink RX3 44 arraycopyName ∈ wsX3_copyFrom from by decide +kernel) (by decide +kernel) (by decide +kernel) (by decide +kernel) 1 1 0 1 0 rfl rfl rfl rfl rfl (by decide) (by decide) (by decide) (by decide) (by decide +kernel) (Bs' := [lkB (Y 0) a1 a2 (V1 0) (V1 1)] ++ [lkB (Y 0) a1b a2b (W 0) (W 1)]) (by rw [hV1]; rfl) dX3_copyFrom_11 ?_
  refine j_aload_n cx (pc := 14) dX3_copyFrom_14 0 rfl ?_
  refine j_aload_n cx (pc := 15) dX3_copyFrom_15 1 rfl ?_
  refine j_get cx (pc := 16) 1 0 rfl rfl (C := RX3) (T := TX3) (N := 10) rfl hinX3 1 (by decide) f15 rfl (v := .int (W 0 0)) rfl dX3_copyFrom_16 ?_
  obtain ⟨V2, hV2⟩ : ∃ z, z = up1 V1 0 0 (W 0 0) := ⟨_, rfl⟩
  refine j_put cx (pc := 19) 0 0 rfl rfl (C := RX3) (T := TX3) (N := 10) rfl hinX3 tyX3 tyX3_ok nmX3 1 (by decide) f15 rfl rfl rfl rfl (Nat.le_of_ble_eq_true rfl) (Bs' := [lkB (Y 0) a1 a2 (V2 0) (V2 1)] ++ [lkB (Y 0) a1b a2b (W 0) (W 1)]) (by rw [hV2]; rfl) dX3_copyFrom_19 ?_
  refine j_aload_n cx (pc := 22) dX3_copyFrom_22 0 rfl ?_
  refine j_aload_n cx (pc := 23) dX3_copyFrom_23 1 rfl ?_
  refine j_get cx (pc := 24) 1 0 rfl rfl (C := RX3) (T := TX3) (N := 10) rfl hinX3 2 (by decide) f19 rfl (v := .int (W 0 1)) rfl dX3_copyFrom_24 ?_
  obtain ⟨V3, hV3⟩ : ∃ z, z = up1 V2 0 1 (W 0 1) := ⟨_, rfl⟩
  refine j_put cx (pc := 27) 0 0 rfl rfl (C := RX3) (T := TX3) (N := 10) rfl hinX3 tyX3 tyX3_ok nmX3 2 (by decide) f19 rfl rfl rfl rfl (Nat.le_of_ble_eq_true rfl) (Bs' := [lkB (Y 0) a1 a2 (V3 0) (V3 1)] ++ [lkB (Y 0) a1b a2b (W 0) (W 1)]) (by rw [hV3]; rfl) dX3_copyFrom_27 ?_
  refine j_aload_n cx (pc := 30) dX3_copyFrom_30 0 rfl ?_
  refine j_aload_n cx (pc := 31) dX3_copyFrom_31 1 rfl ?_
  refine j_get cx (pc := 32) 1 0 rfl rfl (C := RX3) (T := TX3) (N := 10) rfl hinX3 3 (by decide) f22 rfl (v := .int (W 0 2)) rfl dX3_copyFrom_32 ?_
  obtain ⟨V4, hV4⟩ : ∃ z, z = up1 V3 0 2 (W 0 2) := ⟨_, rfl⟩
  refine j_put cx (pc := 35) 0 0 rfl rfl (C := RX3) (T := TX3) (N := 10) rfl hinX3 tyX3 tyX3_ok nmX3 3 (by decide) f22 rfl rfl rfl rfl (Nat.le_of_ble_eq_true rfl) (Bs' := [lkB (Y 0) a1 a2 (V4 0) (V4 1)] ++ [lkB (Y 0) a1b a2b (W 0) (W 1)]) (by rw [hV4]; rfl) dX3_copyFrom_35 ?_
  refine j_aload_n cx (pc := 38) dX3_copyFrom_38 0 rfl ?_
  refine j_aload_n cx (pc := 39) dX3_copyFrom_39 1 rfl ?_
  refine j_get cx (pc := 40) 1 0 rfl rfl (C := RX3) (T := TX3) (N := 10) rfl hinX3 4 (by decide) f25 rfl (v := .int (W 0 3)) rfl dX3_copyFrom_40 ?_
  obtain ⟨V5, hV5⟩ : ∃ z, z = up1 V4 0 3 (W 0 3) := ⟨_, rfl⟩
  refine j_put cx (pc := 43) 0 0 rfl rfl (C := RX3) (T := TX3) (N := 10) rfl hinX3 tyX3 tyX3_ok nmX3 4 (by decide) f25 rfl rfl rfl rfl (Nat.le_of_ble_eq_true rfl) (Bs' := [lkB (Y 0) a1 a2 (V5 0) (V5 1)] ++ [lkB (Y 0) a1b a2b (W 0) (W 1)]) (by rw [hV5]; rfl) dX3_copyFrom_43 ?_
  refine j_aload_n cx (pc := 46) dX3_copyFrom_46 0 rfl ?_
  refine j_aload_n cx (pc := 47) dX3_copyFrom_47 1 rfl ?_
  refine j_get cx (pc := 48) 1 0 rfl rfl (C := RX3) (T := TX3) (N := 10) rfl hinX3 5 (by decide) f28 rfl (v := .int (W 0 4)) rfl dX3_copyFrom_48 ?_
  obtain ⟨V6, hV6⟩ : ∃ z, z = up1 V5 0 4 (W 0 4) := ⟨_, rfl⟩
  refine j_put cx (pc := 51) 0 0 rfl rfl (C := RX3) (T := TX3) (N := 10) rfl hinX3 tyX3 tyX3_ok nmX3 5 (by decide) f28 rfl rfl rfl rfl (Nat.le_of_ble_eq_true rfl) (Bs' := [lkB (Y 0) a1 a2 (V6 0) (V6 1)] ++ [lkB (Y 0) a1b a2b (W 0) (W 1)]) (by rw [hV6]; rfl) dX3_copyFrom_51 ?_
  refine j_aload_n cx (pc := 54) dX3_copyFrom_54 0 rfl ?_
  refine j_aload_n cx (pc := 55) dX3_copyFrom_55 1 rfl ?_
  refine j_get cx (pc := 56) 1 0 rfl rfl (C := RX3) (T := TX3) (N := 10) rfl hinX3 6 (by decide) f31 rfl (v := .int (W 0 5)) rfl dX3_copyFrom_56 ?_
  obtain ⟨V7, hV7⟩ : ∃ z, z = up1 V6 0 5 (W 0 5) := ⟨_, rfl⟩
  refine j_put cx (pc := 59) 0 0 rfl rfl (C := RX3) (T := TX3) (N := 10) rfl hinX3 tyX3 tyX3_ok nmX3 6 (by decide) f31 rfl rfl rfl rfl (Nat.le_of_ble_eq_true rfl) (Bs' := [lkB (Y 0) a1 a2 (V7 0) (V7 1)] ++ [lkB (Y 0) a1b a2b (W 0) (W 1)]) (by rw [hV7]; rfl) dX3_copyFrom_59 ?_
  refine j_aload_n cx (pc := 62) dX3_copyFrom_62 0 rfl ?_
  refine j_aload_n cx (pc := 63) dX3_copyFrom_63 1 rfl ?_
  refine j_get cx (pc := 64) 1 0 rfl rfl (C := RX3) (T := TX3) (N := 10) rfl hinX3 7 (by decide) f34 rfl (v := .int (W 0 6)) rfl dX3_copyFrom_64 ?_
  obtain ⟨V8, hV8⟩ : ∃ z, z = up1 V7 0 6 (W 0 6) := ⟨_, rfl⟩
  refine j_put cx (pc := 67) 0 0 rfl rfl (C := RX3) (T := TX3) (N := 10) rfl hinX3 tyX3 tyX3_ok nmX3 7 (by decide) f34 rfl rfl hb1.1 hb1.2 (Nat.le_of_ble_eq_true rfl) (Bs' := [lkB (Y 0) a1 a2 (V8 0) (V8 1)] ++ [lkB (Y 0) a1b a2b (W 0) (W 1)]) (by rw [hV8]; rfl) dX3_copyFrom_67 ?_
  refine j_aload_n cx (pc := 70) dX3_copyFrom_70 0 rfl ?_
  refine j_aload_n cx (pc := 71) dX3_copyFrom_71 1 rfl ?_
  refine j_get cx (pc := 72) 1 0 rfl rfl (C := RX3) (T := TX3) (N := 10) rfl hinX3 8 (by decide) f38 rfl (v := .int (W 0 7)) rfl dX3_copyFrom_72 ?_
  obtain ⟨V9, hV9⟩ : ∃ z, z = up1 V8 0 7 (W 0 7) := ⟨_, rfl⟩
  refine j_put cx (pc := 75) 0 0 rfl rfl (C := RX3) (T := TX3) (N := 10) rfl hinX3 tyX3 tyX3_ok nmX3 8 (by decide) f38 rfl rfl hb2.1 hb2.2 (Nat.le_of_ble_eq_true rfl) (Bs' := [lkB (Y 0) a1 a2 (V9 0) (V9 1)] ++ [lkB (Y 0) a1b a2b (W 0) (W 1)]) (by rw [hV9]; rfl) dX3_copyFrom_75 ?_
  refine j_aload_n cx (pc := 78) dX3_copyFrom_78 0 rfl ?_
  refine j_aload_n cx (pc := 79) dX3_copyFrom_79 1 rfl ?_
  refine j_get cx (pc := 80) 1 0 rfl rfl (C := RX3) (T := TX3) (N := 10) rfl hinX3 9 (by decide) f41 rfl (v := .int (W 0 8)) rfl dX3_copyFrom_80 ?_
  obtain ⟨V10, hV10⟩ : ∃ z, z = up1 V9 0 8 (W 0 8) := ⟨_, rfl⟩
  refine j_put cx (pc := 83) 0 0 rfl rfl (C := RX3) (T := TX3) (N := 10) rfl hinX3 tyX3 tyX3_ok nmX3 9 (by decide) f41 rfl rfl rfl rfl (Nat.le_of_ble_eq_true rfl) (Bs' := [lkB (Y 0) a1 a2 (V10 0) (V10 1)] ++ [lkB (Y 0) a1b a2b (W 0) (W 1)]) (by rw [hV10]; rfl) dX3_copyFrom_83 ?_
  subst hQ; exact j_vret cx hr (by subst hV10; subst hV9; subst hV8; subst hV7; subst hV6; subst hV5; subst hV4; subst hV3; subst hV2; subst hV1; rfl) hA dX3_copyFrom_86
def C3_tell (U : Nat → Nat → Int32) (what : Int32) (lead : Int32) : Int32 :=
  if what = nI 0 then
    (U 1 0)
  else
    if what = nI 1 then
      (U 1 1)
    else
      if what = nI 2 then
        (U 1 2)
      else
        if what = nI 3 then
          (U 0 0)
        else
          if what = nI 4 then
            (U 0 1)
          else
            if what = nI 5 then
              (U 0 2)
            else
              if what = nI 6 then
                (U 0 3)
              else
                if what = nI 7 then
                  (U 0 4)
                else
                  if what = nI 8 then
                    (U 0 5)
                  else
                    if what = nI 9 then
                      if (U 0 6) = 0 then
                        (nI 0)
                      else
                        (nI 1)
                    else
                      if what = nI 10 then
                        if (U 0 7) = 0 then
                          (nI 0)
                        else
                          (nI 1)
                      else
                        if what = nI 11 then
                          (U 0 8)
                        else
                          if what = nI 12 then
                            if ((U 1 0) + lead) < (U 1 2) then
                              (nI 0)
                            else
                              (nI 1)
                          else
                            (-2)
set_option maxHeartbeats 4000000 in
set_option maxRecDepth 100000 in
theorem c_X3_tell (l : Launch) (D : va_G) (Y : Nat → ClassId) (a1 a2 : Nat) (U : Nat → Nat → Int32) (what : Int32) (lead : Int32)  : CtI l yX3_tell wsX3_tell 0 0 D (tyL Y) ([lkB (Y 0) a1 a2 (U 0) (U 1)]) [.ref a1, .int what, .int lead] (C3_tell U what lead) ([lkB (Y 0) a1 a2 (U 0) (U 1)]) := by
  refine CtI.intro (own := RX3) (cc := cX3_tell) (maxL := 3) rfl (by decide +kernel) rfl (Nat.le_of_ble_eq_true rfl) (fun p e s m args below meth c A Q hA hQ cx hr => ?_)
  have hinX3 : ∀ w ∈ wsX30, w ∈ wsX3_tell := by decide +kernel
  have f9 : Cond.fieldLink RX3 9 "FourPhases$Link" "delays" "[I" ∈ wsX3_tell := by decide +kernel
  have f15 : Cond.fieldLink RX3 15 "FourPhases$Link" "requestAtBeginning" "I" ∈ wsX3_tell := by decide +kernel
  have f19 : Cond.fieldLink RX3 19 "FourPhases$Link" "requestAtEnd" "I" ∈ wsX3_tell := by decide +kernel
  have f22 : Cond.fieldLink RX3 22 "FourPhases$Link" "answerAtEnd" "I" ∈ wsX3_tell := by decide +kernel
  have f25 : Cond.fieldLink RX3 25 "FourPhases$Link" "answerAtBeginning" "I" ∈ wsX3_tell := by decide +kernel
  have f28 : Cond.fieldLink RX3 28 "FourPhases$Link" "dataAtBeginning" "I" ∈ wsX3_tell := by decide +kernel
  have f31 : Cond.fieldLink RX3 31 "FourPhases$Link" "dataAtEnd" "I" ∈ wsX3_tell := by decide +kernel
  have f34 : Cond.fieldLink RX3 34 "FourPhases$Link" "atRest" "Z" ∈ wsX3_tell := by decide +kernel
  have f38 : Cond.fieldLink RX3 38 "FourPhases$Link" "requestWaits" "Z" ∈ wsX3_tell := by decide +kernel
  have f41 : Cond.fieldLink RX3 41 "FourPhases$Link" "offeredWords" "I" ∈ wsX3_tell := by decide +kernel
  refine j_iload_n cx (pc := 0) dX3_tell_0 1 rfl ?_
  by_cases s1_1 : what = nI 0
  · skip
    refine j_tableIn cx (pc := 1) dX3_tell_1 (by rw [s1_1]; decide) (by rw [s1_1]; decide) (off := 67) (by rw [s1_1]; decide) (tgt := 68) (by decide) ?_
    refine j_aload_n cx (pc := 68) dX3_tell_68 0 rfl ?_
    refine j_get cx (pc := 69) 0 0 rfl rfl (C := RX3) (T := TX3) (N := 10) rfl hinX3 0 (by decide) f9 rfl (v := .ref a2) rfl dX3_tell_69 ?_
    refine j_iconst cx (pc := 72) (v := (nI 0)) dX3_tell_72 (by decide) ?_
    refine j_iald cx (pc := 73) 0 1 0 rfl rfl rfl (by decide) (by decide) dX3_tell_73 ?_
    subst hQ; exact j_iret cx hr (by simp only [C3_tell, if_pos s1_1]) rfl hA dX3_tell_74
  by_cases s1_2 : what = nI 1
  · skip
    refine j_tableIn cx (pc := 1) dX3_tell_1 (by rw [s1_2]; decide) (by rw [s1_2]; decide) (off := 74) (by rw [s1_2]; decide) (tgt := 75) (by decide) ?_
    refine j_aload_n cx (pc := 75) dX3_tell_75 0 rfl ?_
    refine j_get cx (pc := 76) 0 0 rfl rfl (C := RX3) (T := TX3) (N := 10) rfl hinX3 0 (by decide) f9 rfl (v := .ref a2) rfl dX3_tell_76 ?_
    refine j_iconst cx (pc := 79) (v := (nI 1)) dX3_tell_79 (by decide) ?_
    refine j_iald cx (pc := 80) 0 1 0 rfl rfl rfl (by decide) (by decide) dX3_tell_80 ?_
    subst hQ; exact j_iret cx hr (by simp only [C3_tell, if_neg s1_1, if_pos s1_2]) rfl hA dX3_tell_81
  by_cases s1_3 : what = nI 2
  · skip
    refine j_tableIn cx (pc := 1) dX3_tell_1 (by rw [s1_3]; decide) (by rw [s1_3]; decide) (off := 81) (by rw [s1_3]; decide) (tgt := 82) (by decide) ?_
    refine j_aload_n cx (pc := 82) dX3_tell_82 0 rfl ?_
    refine j_get cx (pc := 83) 0 0 rfl rfl (C := RX3) (T := TX3) (N := 10) rfl hinX3 0 (by decide) f9 rfl (v := .ref a2) rfl dX3_tell_83 ?_
    refine j_iconst cx (pc := 86) (v := (nI 2)) dX3_tell_86 (by decide) ?_
    refine j_iald cx (pc := 87) 0 1 0 rfl rfl rfl (by decide) (by decide) dX3_tell_87 ?_
    subst hQ; exact j_iret cx hr (by simp only [C3_tell, if_neg s1_1, if_neg s1_2, if_pos s1_3]) rfl hA dX3_tell_88
  by_cases s1_4 : what = nI 3
  · skip
    refine j_tableIn cx (pc := 1) dX3_tell_1 (by rw [s1_4]; decide) (by rw [s1_4]; decide) (off := 88) (by rw [s1_4]; decide) (tgt := 89) (by decide) ?_
    refine j_aload_n cx (pc := 89) dX3_tell_89 0 rfl ?_
    refine j_get cx (pc := 90) 0 0 rfl rfl (C := RX3) (T := TX3) (N := 10) rfl hinX3 1 (by decide) f15 rfl (v := .int (U 0 0)) rfl dX3_tell_90 ?_
    subst hQ; exact j_iret cx hr (by simp only [C3_tell, if_neg s1_1, if_neg s1_2, if_neg s1_3, if_pos s1_4]) rfl hA dX3_tell_93
  by_cases s1_5 : what = nI 4
  · skip
    refine j_tableIn cx (pc := 1) dX3_tell_1 (by rw [s1_5]; decide) (by rw [s1_5]; decide) (off := 93) (by rw [s1_5]; decide) (tgt := 94) (by decide) ?_
    refine j_aload_n cx (pc := 94) dX3_tell_94 0 rfl ?_
    refine j_get cx (pc := 95) 0 0 rfl rfl (C := RX3) (T := TX3) (N := 10) rfl hinX3 2 (by decide) f19 rfl (v := .int (U 0 1)) rfl dX3_tell_95 ?_
    subst hQ; exact j_iret cx hr (by simp only [C3_tell, if_neg s1_1, if_neg s1_2, if_neg s1_3, if_neg s1_4, if_pos s1_5]) rfl hA dX3_tell_98
  by_cases s1_6 : what = nI 5
  · skip
    refine j_tableIn cx (pc := 1) dX3_tell_1 (by rw [s1_6]; decide) (by rw [s1_6]; decide) (off := 98) (by rw [s1_6]; decide) (tgt := 99) (by decide) ?_
    refine j_aload_n cx (pc := 99) dX3_tell_99 0 rfl ?_
    refine j_get cx (pc := 100) 0 0 rfl rfl (C := RX3) (T := TX3) (N := 10) rfl hinX3 3 (by decide) f22 rfl (v := .int (U 0 2)) rfl dX3_tell_100 ?_
    subst hQ; exact j_iret cx hr (by simp only [C3_tell, if_neg s1_1, if_neg s1_2, if_neg s1_3, if_neg s1_4, if_neg s1_5, if_pos s1_6]) rfl hA dX3_tell_103
  by_cases s1_7 : what = nI 6
  · skip
    refine j_tableIn cx (pc := 1) dX3_tell_1 (by rw [s1_7]; decide) (by rw [s1_7]; decide) (off := 103) (by rw [s1_7]; decide) (tgt := 104) (by decide) ?_
    refine j_aload_n cx (pc := 104) dX3_tell_104 0 rfl ?_
    refine j_get cx (pc := 105) 0 0 rfl rfl (C := RX3) (T := TX3) (N := 10) rfl hinX3 4 (by decide) f25 rfl (v := .int (U 0 3)) rfl dX3_tell_105 ?_
    subst hQ; exact j_iret cx hr (by simp only [C3_tell, if_neg s1_1, if_neg s1_2, if_neg s1_3, if_neg s1_4, if_neg s1_5, if_neg s1_6, if_pos s1_7]) rfl hA dX3_tell_108
  by_cases s1_8 : what = nI 7
  · skip
    refine j_tableIn cx (pc := 1) dX3_tell_1 (by rw [s1_8]; decide) (by rw [s1_8]; decide) (off := 108) (by rw [s1_8]; decide) (tgt := 109) (by decide) ?_
    refine j_aload_n cx (pc := 109) dX3_tell_109 0 rfl ?_
    refine j_get cx (pc := 110) 0 0 rfl rfl (C := RX3) (T := TX3) (N := 10) rfl hinX3 5 (by decide) f28 rfl (v := .int (U 0 4)) rfl dX3_tell_110 ?_
    subst hQ; exact j_iret cx hr (by simp only [C3_tell, if_neg s1_1, if_neg s1_2, if_neg s1_3, if_neg s1_4, if_neg s1_5, if_neg s1_6, if_neg s1_7, if_pos s1_8]) rfl hA dX3_tell_113
  by_cases s1_9 : what = nI 8
  · skip
    refine j_tableIn cx (pc := 1) dX3_tell_1 (by rw [s1_9]; decide) (by rw [s1_9]; decide) (off := 113) (by rw [s1_9]; decide) (tgt := 114) (by decide) ?_
    refine j_aload_n cx (pc := 114) dX3_tell_114 0 rfl ?_
    refine j_get cx (pc := 115) 0 0 rfl rfl (C := RX3) (T := TX3) (N := 10) rfl hinX3 6 (by decide) f31 rfl (v := .int (U 0 5)) rfl dX3_tell_115 ?_
    subst hQ; exact j_iret cx hr (by simp only [C3_tell, if_neg s1_1, if_neg s1_2, if_neg s1_3, if_neg s1_4, if_neg s1_5, if_neg s1_6, if_neg s1_7, if_neg s1_8, if_pos s1_9]) rfl hA dX3_tell_118
  by_cases s1_10 : what = nI 9
  · skip
    refine j_tableIn cx (pc := 1) dX3_tell_1 (by rw [s1_10]; decide) (by rw [s1_10]; decide) (off := 118) (by rw [s1_10]; decide) (tgt := 119) (by decide) ?_
    refine j_aload_n cx (pc := 119) dX3_tell_119 0 rfl ?_
    refine j_get cx (pc := 120) 0 0 rfl rfl (C := RX3) (T := TX3) (N := 10) rfl hinX3 7 (by decide) f34 rfl (v := .int (U 0 6)) rfl dX3_tell_120 ?_
    refine j_if_eq cx (pc := 123) (tgt := 130) dX3_tell_123 (by decide) (fun c123_11 => ?_) (fun c123_11 => ?_)
    · skip
      refine j_iconst cx (pc := 130) (v := (nI 0)) dX3_tell_130 (by decide) ?_
      subst hQ; exact j_iret cx hr (by simp only [C3_tell, if_neg s1_1, if_neg s1_2, if_neg s1_3, if_neg s1_4, if_neg s1_5, if_neg s1_6, if_neg s1_7, if_neg s1_8, if_neg s1_9, if_pos s1_10, if_pos c123_11]) rfl hA dX3_tell_131
    · skip
      refine j_iconst cx (pc := 126) (v := (nI 1)) dX3_tell_126 (by decide) ?_
      refine j_goto cx (pc := 127) (tgt := 131) dX3_tell_127 (by decide) ?_
      subst hQ; exact j_iret cx hr (by simp only [C3_tell, if_neg s1_1, if_neg s1_2, if_neg s1_3, if_neg s1_4, if_neg s1_5, if_neg s1_6, if_neg s1_7, if_neg s1_8, if_neg s1_9, if_pos s1_10, if_neg c123_11]) rfl hA dX3_tell_131
  by_cases s1_12 : what = nI 10
  · skip
    refine j_tableIn cx (pc := 1) dX3_tell_1 (by rw [s1_12]; decide) (by rw [s1_12]; decide) (off := 131) (by rw [s1_12]; decide) (tgt := 132) (by decide) ?_
    refine j_aload_n cx (pc := 132) dX3_tell_132 0 rfl ?_
    refine j_get cx (pc := 133) 0 0 rfl rfl (C := RX3) (T := TX3) (N := 10) rfl hinX3 8 (by decide) f38 rfl (v := .int (U 0 7)) rfl dX3_tell_133 ?_
    refine j_if_eq cx (pc := 136) (tgt := 143) dX3_tell_136 (by decide) (fun c136_13 => ?_) (fun c136_13 => ?_)
    · skip
      refine j_iconst cx (pc := 143) (v := (nI 0)) dX3_tell_143 (by decide) ?_
      subst hQ; exact j_iret cx hr (by simp only [C3_tell, if_neg s1_1, if_neg s1_2, if_neg s1_3, if_neg s1_4, if_neg s1_5, if_neg s1_6, if_neg s1_7, if_neg s1_8, if_neg s1_9, if_neg s1_10, if_pos s1_12, if_pos c136_13]) rfl hA dX3_tell_144
    · skip
      refine j_iconst cx (pc := 139) (v := (nI 1)) dX3_tell_139 (by decide) ?_
      refine j_goto cx (pc := 140) (tgt := 144) dX3_tell_140 (by decide) ?_
      subst hQ; exact j_iret cx hr (by simp only [C3_tell, if_neg s1_1, if_neg s1_2, if_neg s1_3, if_neg s1_4, if_neg s1_5, if_neg s1_6, if_neg s1_7, if_neg s1_8, if_neg s1_9, if_neg s1_10, if_pos s1_12, if_neg c136_13]) rfl hA dX3_tell_144
  by_cases s1_14 : what = nI 11
  · skip
    refine j_tableIn cx (pc := 1) dX3_tell_1 (by rw [s1_14]; decide) (by rw [s1_14]; decide) (off := 144) (by rw [s1_14]; decide) (tgt := 145) (by decide) ?_
    refine j_aload_n cx (pc := 145) dX3_tell_145 0 rfl ?_
    refine j_get cx (pc := 146) 0 0 rfl rfl (C := RX3) (T := TX3) (N := 10) rfl hinX3 9 (by decide) f41 rfl (v := .int (U 0 8)) rfl dX3_tell_146 ?_
    subst hQ; exact j_iret cx hr (by simp only [C3_tell, if_neg s1_1, if_neg s1_2, if_neg s1_3, if_neg s1_4, if_neg s1_5, if_neg s1_6, if_neg s1_7, if_neg s1_8, if_neg s1_9, if_neg s1_10, if_neg s1_12, if_pos s1_14]) rfl hA dX3_tell_149
  by_cases s1_15 : what = nI 12
  · skip
    refine j_tableIn cx (pc := 1) dX3_tell_1 (by rw [s1_15]; decide) (by rw [s1_15]; decide) (off := 149) (by rw [s1_15]; decide) (tgt := 150) (by decide) ?_
    refine j_aload_n cx (pc := 150) dX3_tell_150 0 rfl ?_
    refine j_get cx (pc := 151) 0 0 rfl rfl (C := RX3) (T := TX3) (N := 10) rfl hinX3 0 (by decide) f9 rfl (v := .ref a2) rfl dX3_tell_151 ?_
    refine j_iconst cx (pc := 154) (v := (nI 2)) dX3_tell_154 (by decide) ?_
    refine j_iald cx (pc := 155) 0 1 0 rfl rfl rfl (by decide) (by decide) dX3_tell_155 ?_
    refine j_aload_n cx (pc := 156) dX3_tell_156 0 rfl ?_
    refine j_get cx (pc := 157) 0 0 rfl rfl (C := RX3) (T := TX3) (N := 10) rfl hinX3 0 (by decide) f9 rfl (v := .ref a2) rfl dX3_tell_157 ?_
    refine j_iconst cx (pc := 160) (v := (nI 0)) dX3_tell_160 (by decide) ?_
    refine j_iald cx (pc := 161) 0 1 0 rfl rfl rfl (by decide) (by decide) dX3_tell_161 ?_
    refine j_iload_n cx (pc := 162) dX3_tell_162 2 rfl ?_
    refine j_iadd cx (pc := 163) dX3_tell_163 ?_
    refine j_icmp_gt cx (pc := 164) (tgt := 171) dX3_tell_164 (by decide) (fun c164_16 => ?_) (fun c164_16 => ?_)
    · skip
      refine j_iconst cx (pc := 171) (v := (nI 0)) dX3_tell_171 (by decide) ?_
      subst hQ; exact j_iret cx hr (by simp only [C3_tell, if_neg s1_1, if_neg s1_2, if_neg s1_3, if_neg s1_4, if_neg s1_5, if_neg s1_6, if_neg s1_7, if_neg s1_8, if_neg s1_9, if_neg s1_10, if_neg s1_12, if_neg s1_14, if_pos s1_15, if_pos c164_16]) rfl hA dX3_tell_172
    · skip
      refine j_iconst cx (pc := 167) (v := (nI 1)) dX3_tell_167 (by decide) ?_
      refine j_goto cx (pc := 168) (tgt := 172) dX3_tell_168 (by decide) ?_
      subst hQ; exact j_iret cx hr (by simp only [C3_tell, if_neg s1_1, if_neg s1_2, if_neg s1_3, if_neg s1_4, if_neg s1_5, if_neg s1_6, if_neg s1_7, if_neg s1_8, if_neg s1_9, if_neg s1_10, if_neg s1_12, if_neg s1_14, if_pos s1_15, if_neg c164_16]) rfl hA dX3_tell_172
  refine j_tableOut cx (pc := 1) dX3_tell_1 (sw_out 0 12 (by decide) (by intro j h1 h2; rcases (show j = 0 ∨ j = 1 ∨ j = 2 ∨ j = 3 ∨ j = 4 ∨ j = 5 ∨ j = 6 ∨ j = 7 ∨ j = 8 ∨ j = 9 ∨ j = 10 ∨ j = 11 ∨ j = 12 from by omega) with rfl | rfl | rfl | rfl | rfl | rfl | rfl | rfl | rfl | rfl | rfl | rfl | rfl <;> assumption)) (tgt := 173) (by decide) ?_
  refine j_bipush cx (pc := 173) (v := (-2)) dX3_tell_173 (by decide) ?_
  subst hQ; exact j_iret cx hr (by simp only [C3_tell, if_neg s1_1, if_neg s1_2, if_neg s1_3, if_neg s1_4, if_neg s1_5, if_neg s1_6, if_neg s1_7, if_neg s1_8, if_neg s1_9, if_neg s1_10, if_neg s1_12, if_neg s1_14, if_neg s1_15]) rfl hA dX3_tell_175
def C4_clear (U : Nat → Nat → Int32)  : Nat → Nat → Int32 :=
  let V1 := up1 U 0 0 (nI 0)
  let V2 := up1 V1 0 1 (nI 0)
  V2
set_option maxHeartbeats 4000000 in
set_option maxRecDepth 100000 in
theorem c_X4_clear (l : Launch) (D : va_G) (Y : Nat → ClassId) (a1 a2 a3 a4 : Nat) (U : Nat → Nat → Int32)   : CtV l yX4_clear wsX4_clear 0 0 D (tyL Y) ([ntB (Y 0) a1 a2 a3 a4 (U 0) (U 1) (U 2) (U 3)]) [.ref a1] ([ntB (Y 0) a1 a2 a3 a4 ((C4_clear U ) 0) ((C4_clear U ) 1) ((C4_clear U ) 2) ((C4_clear U ) 3)]) := by
  refine CtV.intro (own := RX4) (cc := cX4_clear) (maxL := 1) rfl (by decide +kernel) rfl (Nat.le_of_ble_eq_true rfl) (fun p e s m args below meth c A Q hA hQ cx hr => ?_)
  have hinX4 : ∀ w ∈ wsX40, w ∈ wsX4_clear := by decide +kernel
  have f21 : Cond.fieldLink RX4 21 "FourPhases$Notes" "count" "I" ∈ wsX4_clear := by decide +kernel
  have f25 : Cond.fieldLink RX4 25 "FourPhases$Notes" "rightCount" "I" ∈ wsX4_clear := by decide +kernel
  refine j_aload_n cx (pc := 0) dX4_clear_0 0 rfl ?_
  refine j_iconst cx (pc := 1) (v := (nI 0)) dX4_clear_1 (by decide) ?_
  obtain ⟨V1, hV1⟩ : ∃ z, z = up1 U 0 0 (nI 0) := ⟨_, rfl⟩
  refine j_put cx (pc := 2) 0 0 rfl rfl (C := RX4) (T := TX4) (N := 5) rfl hinX4 tyX4 tyX4_ok nmX4 3 (by decide) f21 rfl rfl rfl rfl (Nat.le_of_ble_eq_true rfl) (Bs' := [ntB (Y 0) a1 a2 a3 a4 (V1 0) (V1 1) (V1 2) (V1 3)]) (by rw [hV1]; rfl) dX4_clear_2 ?_
  refine j_aload_n cx (pc := 5) dX4_clear_5 0 rfl ?_
  refine j_iconst cx (pc := 6) (v := (nI 0)) dX4_clear_6 (by decide) ?_
  obtain ⟨V2, hV2⟩ : ∃ z, z = up1 V1 0 1 (nI 0) := ⟨_, rfl⟩
  refine j_put cx (pc := 7) 0 0 rfl rfl (C := RX4) (T := TX4) (N := 5) rfl hinX4 tyX4 tyX4_ok nmX4 4 (by decide) f25 rfl rfl rfl rfl (Nat.le_of_ble_eq_true rfl) (Bs' := [ntB (Y 0) a1 a2 a3 a4 (V2 0) (V2 1) (V2 2) (V2 3)]) (by rw [hV2]; rfl) dX4_clear_7 ?_
  subst hQ; exact j_vret cx hr (by subst hV2; subst hV1; rfl) hA dX4_clear_10
def C4_copyFrom (U : Nat → Nat → Int32) (W : Nat → Nat → Int32)  : Nat → Nat → Int32 :=
  let V1 := setC U 1 (va_cpy (W 1) (U 1) 0 0 50)
  let V2 := setC V1 2 (va_cpy (W 2) (V1 2) 0 0 50)
  let V3 := setC V2 3 (va_cpy (W 3) (V2 3) 0 0 50)
  let V4 := up1 V3 0 0 (W 0 0)
  let V5 := up1 V4 0 1 (W 0 1)
  V5
set_option maxHeartbeats 4000000 in
set_option maxRecDepth 100000 in
theorem c_X4_copyFrom (l : Launch) (D : va_G) (Y : Nat → ClassId) (a1 a2 a3 a4 : Nat) (U : Nat → Nat → Int32) (a1b a2b a3b a4b : Nat) (W : Nat → Nat → Int32)   : CtV l yX4_copyFrom wsX4_copyFrom 1 40 D (tyL Y) ([ntB (Y 0) a1 a2 a3 a4 (U 0) (U 1) (U 2) (U 3)] ++ [ntB (Y 0) a1b a2b a3b a4b (W 0) (W 1) (W 2) (W 3)]) [.ref a1, .ref a1b] ([ntB (Y 0) a1 a2 a3 a4 ((C4_copyFrom U W ) 0) ((C4_copyFrom U W ) 1) ((C4_copyFrom U W ) 2) ((C4_copyFrom U W ) 3)] ++ [ntB (Y 0) a1b a2b a3b a4b (W 0) (W 1) (W 2) (W 3)]) := by
  refine CtV.intro (own := RX4) (cc := cX4_copyFrom) (maxL := 2) rfl (by decide +kernel) rfl (Nat.le_of_ble_eq_true rfl) (fun p e s m args below meth c A Q hA hQ cx hr => ?_)
  have hinX4 : ∀ w ∈ wsX40, w ∈ wsX4_copyFrom := by decide +kernel
  have f9 : Cond.fieldLink RX4 9 "FourPhases$Notes" "words" "[I" ∈ wsX4_copyFrom := by decide +kernel
  have f15 : Cond.fieldLink RX4 15 "FourPhases$Notes" "times" "[I" ∈ wsX4_copyFrom := by decide +kernel
  have f18 : Cond.fieldLink RX4 18 "FourPhases$Notes" "rights" "[I" ∈ wsX4_copyFrom := by decide +kernel
  have f21 : Cond.fieldLink RX4 21 "FourPhases$Notes" "count" "I" ∈ wsX4_copyFrom := by decide +kernel
  have f25 : Cond.fieldLink RX4 25 "FourPhases$Notes" "rightCount" "I" ∈ wsX4_copyFrom := by decide +kernel
  refine j_aload_n cx (pc := 0) dX4_copyFrom_0 1 rfl ?_
  refine j_get cx (pc := 1) 1 0 rfl rfl (C := RX4) (T := TX4) (N := 5) rfl hinX4 0 (by decide) f9 rfl (v := .ref a2b) rfl dX4_copyFrom_1 ?_
  refine j_iconst cx (pc := 4) (v := (nI 0)) dX4_copyFrom_4 (by decide) ?_
  refine j_aload_n cx (pc := 5) dX4_copyFrom_5 0 rfl ?_
  refine j_get cx (pc := 6) 0 0 rfl rfl (C := RX4) (T := TX4) (N := 5) rfl hinX4 0 (by decide) f9 rfl (v := .ref a2) rfl dX4_copyFrom_6 ?_
  refine j_iconst cx (pc := 9) (v := (nI 0)) dX4_copyFrom_9 (by decide) ?_
  refine j_bipush cx (pc := 10) (v := (nI 50)) dX4_copyFrom_10 (by decide) ?_
  obtain ⟨V1, hV1⟩ : ∃ z, z = setC U 1 (va_cpy (W 1) (U 1) 0 0 50) := ⟨_, rfl⟩
  refine j_copy cx (pc := 12) (show Cond.methodLink RX4 28 arraycopyName ∈ wsX4_copyFrom from by decide +kernel) (by decide +kernel) (by decide +kernel) (by decide +kernel) 1 1 0 1 0 rfl rfl rfl rfl rfl (by decide) (by decide) (by decide) (by decide) (by decide +kernel) (Bs' := [ntB (Y 0) a1 a2 a3 a4 (V1 0) (V1 1) (V1 2) (V1 3)] ++ [ntB (Y 0) a1b a2b a3b a4b (W 0) (W 1) (W 2) (W 3)]) (by rw [hV1]; rfl) dX4_copyFrom_12 ?_
  refine j_aload_n cx (pc := 15) dX4_copyFrom_15 1 rfl ?_
  refine j_get cx (pc := 16) 1 0 rfl rfl (C := RX4) (T := TX4) (N := 5) rfl hinX4 1 (by decide) f15 rfl (v := .ref a3b) rfl dX4_copyFrom_16 ?_
  refine j_iconst cx (pc := 19) (v := (nI 0)) dX4_copyFrom_19 (by decide) ?_
  refine j_aload_n cx (pc := 20) dX4_copyFrom_20 0 rfl ?_
  refine j_get cx (pc := 21) 0 0 rfl rfl (C := RX4) (T := TX4) (N := 5) rfl hinX4 1 (by decide) f15 rfl (v := .ref a3) rfl dX4_copyFrom_21 ?_
  refine j_iconst cx (pc := 24) (v := (nI 0)) dX4_copyFrom_24 (by decide) ?_
  refine j_bipush cx (pc := 25) (v := (nI 50)) dX4_copyFrom_25 (by decide) ?_
  obtain ⟨V2, hV2⟩ : ∃ z, z = setC V1 2 (va_cpy (W 2) (V1 2) 0 0 50) := ⟨_, rfl⟩
  refine j_copy cx (pc := 27) (show Cond.methodLink RX4 28 arraycopyName ∈ wsX4_copyFrom from by decide +kernel) (by decide +kernel) (by decide +kernel) (by decide +kernel) 1 2 0 2 0 rfl rfl rfl rfl rfl (by decide) (by decide) (by decide) (by decide) (by decide +kernel) (Bs' := [ntB (Y 0) a1 a2 a3 a4 (V2 0) (V2 1) (V2 2) (V2 3)] ++ [ntB (Y 0) a1b a2b a3b a4b (W 0) (W 1) (W 2) (W 3)]) (by rw [hV2]; rfl) dX4_copyFrom_27 ?_
  refine j_aload_n cx (pc := 30) dX4_copyFrom_30 1 rfl ?_
  refine j_get cx (pc := 31) 1 0 rfl rfl (C := RX4) (T := TX4) (N := 5) rfl hinX4 2 (by decide) f18 rfl (v := .ref a4b) rfl dX4_copyFrom_31 ?_
  refine j_iconst cx (pc := 34) (v := (nI 0)) dX4_copyFrom_34 (by decide) ?_
  refine j_aload_n cx (pc := 35) dX4_copyFrom_35 0 rfl ?_
  refine j_get cx (pc := 36) 0 0 rfl rfl (C := RX4) (T := TX4) (N := 5) rfl hinX4 2 (by decide) f18 rfl (v := .ref a4) rfl dX4_copyFrom_36 ?_
  refine j_iconst cx (pc := 39) (v := (nI 0)) dX4_copyFrom_39 (by decide) ?_
  refine j_bipush cx (pc := 40) (v := (nI 50)) dX4_copyFrom_40 (by decide) ?_
  obtain ⟨V3, hV3⟩ : ∃ z, z = setC V2 3 (va_cpy (W 3) (V2 3) 0 0 50) := ⟨_, rfl⟩
  refine j_copy cx (pc := 42) (show Cond.methodLink RX4 28 arraycopyName ∈ wsX4_copyFrom from by decide +kernel) (by decide +kernel) (by decide +kernel) (by decide +kernel) 1 3 0 3 0 rfl rfl rfl rfl rfl (by decide) (by decide) (by decide) (by decide) (by decide +kernel) (Bs' := [ntB (Y 0) a1 a2 a3 a4 (V3 0) (V3 1) (V3 2) (V3 3)] ++ [ntB (Y 0) a1b a2b a3b a4b (W 0) (W 1) (W 2) (W 3)]) (by rw [hV3]; rfl) dX4_copyFrom_42 ?_
  refine j_aload_n cx (pc := 45) dX4_copyFrom_45 0 rfl ?_
  refine j_aload_n cx (pc := 46) dX4_copyFrom_46 1 rfl ?_
  refine j_get cx (pc := 47) 1 0 rfl rfl (C := RX4) (T := TX4) (N := 5) rfl hinX4 3 (by decide) f21 rfl (v := .int (W 0 0)) rfl dX4_copyFrom_47 ?_
  obtain ⟨V4, hV4⟩ : ∃ z, z = up1 V3 0 0 (W 0 0) := ⟨_, rfl⟩
  refine j_put cx (pc := 50) 0 0 rfl rfl (C := RX4) (T := TX4) (N := 5) rfl hinX4 tyX4 tyX4_ok nmX4 3 (by decide) f21 rfl rfl rfl rfl (Nat.le_of_ble_eq_true rfl) (Bs' := [ntB (Y 0) a1 a2 a3 a4 (V4 0) (V4 1) (V4 2) (V4 3)] ++ [ntB (Y 0) a1b a2b a3b a4b (W 0) (W 1) (W 2) (W 3)]) (by rw [hV4]; rfl) dX4_copyFrom_50 ?_
  refine j_aload_n cx (pc := 53) dX4_copyFrom_53 0 rfl ?_
  refine j_aload_n cx (pc := 54) dX4_copyFrom_54 1 rfl ?_
  refine j_get cx (pc := 55) 1 0 rfl rfl (C := RX4) (T := TX4) (N := 5) rfl hinX4 4 (by decide) f25 rfl (v := .int (W 0 1)) rfl dX4_copyFrom_55 ?_
  obtain ⟨V5, hV5⟩ : ∃ z, z = up1 V4 0 1 (W 0 1) := ⟨_, rfl⟩
  refine j_put cx (pc := 58) 0 0 rfl rfl (C := RX4) (T := TX4) (N := 5) rfl hinX4 tyX4 tyX4_ok nmX4 4 (by decide) f25 rfl rfl rfl rfl (Nat.le_of_ble_eq_true rfl) (Bs' := [ntB (Y 0) a1 a2 a3 a4 (V5 0) (V5 1) (V5 2) (V5 3)] ++ [ntB (Y 0) a1b a2b a3b a4b (W 0) (W 1) (W 2) (W 3)]) (by rw [hV5]; rfl) dX4_copyFrom_58 ?_
  subst hQ; exact j_vret cx hr (by subst hV5; subst hV4; subst hV3; subst hV2; subst hV1; rfl) hA dX4_copyFrom_61
def C4_append (U : Nat → Nat → Int32) (word : Int32) (time : Int32) (right : Int32) : Nat → Nat → Int32 :=
  let V1 := up1 U 1 ((tN (U 0 0)) % 50) word
  let V2 := up1 V1 2 ((tN (U 0 0)) % 50) time
  let V3 := up1 V2 3 ((tN (U 0 0)) % 50) right
  let V4 := up1 V3 0 0 ((V3 0 0) + (nI 1))
  let V5 := up1 V4 0 1 ((V4 0 1) + right)
  V5
set_option maxHeartbeats 4000000 in
set_option maxRecDepth 100000 in
theorem c_X4_append (l : Launch) (D : va_G) (Y : Nat → ClassId) (a1 a2 a3 a4 : Nat) (U : Nat → Nat → Int32) (word : Int32) (time : Int32) (right : Int32) (hc : ¬ U 0 0 < 0) : CtV l yX4_append wsX4_append 0 0 D (tyL Y) ([ntB (Y 0) a1 a2 a3 a4 (U 0) (U 1) (U 2) (U 3)]) [.ref a1, .int word, .int time, .int right] ([ntB (Y 0) a1 a2 a3 a4 ((C4_append U word time right) 0) ((C4_append U word time right) 1) ((C4_append U word time right) 2) ((C4_append U word time right) 3)]) := by
  refine CtV.intro (own := RX4) (cc := cX4_append) (maxL := 5) rfl (by decide +kernel) rfl (Nat.le_of_ble_eq_true rfl) (fun p e s m args below meth c A Q hA hQ cx hr => ?_)
  have hinX4 : ∀ w ∈ wsX40, w ∈ wsX4_append := by decide +kernel
  have f9 : Cond.fieldLink RX4 9 "FourPhases$Notes" "words" "[I" ∈ wsX4_append := by decide +kernel
  have f15 : Cond.fieldLink RX4 15 "FourPhases$Notes" "times" "[I" ∈ wsX4_append := by decide +kernel
  have f18 : Cond.fieldLink RX4 18 "FourPhases$Notes" "rights" "[I" ∈ wsX4_append := by decide +kernel
  have f21 : Cond.fieldLink RX4 21 "FourPhases$Notes" "count" "I" ∈ wsX4_append := by decide +kernel
  have f25 : Cond.fieldLink RX4 25 "FourPhases$Notes" "rightCount" "I" ∈ wsX4_append := by decide +kernel
  have hlt : tN (U 0 0) < 2 ^ 31 := tN_lt _
  have h50 : tN (U 0 0) % 50 < 50 := Nat.mod_lt _ (by decide)
  refine j_aload_n cx (pc := 0) dX4_append_0 0 rfl ?_
  refine j_get cx (pc := 1) 0 0 rfl rfl (C := RX4) (T := TX4) (N := 5) rfl hinX4 3 (by decide) f21 rfl (v := .int (U 0 0)) rfl dX4_append_1 ?_
  refine j_top (show (U 0 0) = (nI (tN (U 0 0))) from inG hc) ?_
  refine j_bipush cx (pc := 4) (v := (nI 50)) dX4_append_4 (by decide) ?_
  refine j_iremN cx (pc := 6) (by omega) (by omega) (by omega) dX4_append_6 ?_
  refine j_istore cx (pc := 7) (lv' := [(4, .int (nI ((tN (U 0 0)) % 50))), (0, .ref a1), (1, .int word), (2, .int time), (3, .int right)]) dX4_append_7 (by decide) rfl ?_
  refine j_aload_n cx (pc := 9) dX4_append_9 1 rfl ?_
  refine j_get cx (pc := 10) 0 0 rfl rfl (C := RX4) (T := TX4) (N := 5) rfl hinX4 0 (by decide) f9 rfl (v := .ref a2) rfl dX4_append_10 ?_
  refine j_iload cx (pc := 13) dX4_append_13 0 rfl ?_
  refine j_iload_n cx (pc := 15) dX4_append_15 2 rfl ?_
  obtain ⟨V1, hV1⟩ : ∃ z, z = up1 U 1 ((tN (U 0 0)) % 50) word := ⟨_, rfl⟩
  refine j_iast cx (pc := 16) 0 1 0 rfl rfl rfl (by omega) (by decide) (Bs' := [ntB (Y 0) a1 a2 a3 a4 (V1 0) (V1 1) (V1 2) (V1 3)]) (by rw [hV1]; rfl) dX4_append_16 ?_
  refine j_aload_n cx (pc := 17) dX4_append_17 1 rfl ?_
  refine j_get cx (pc := 18) 0 0 rfl rfl (C := RX4) (T := TX4) (N := 5) rfl hinX4 1 (by decide) f15 rfl (v := .ref a3) rfl dX4_append_18 ?_
  refine j_iload cx (pc := 21) dX4_append_21 0 rfl ?_
  refine j_iload_n cx (pc := 23) dX4_append_23 3 rfl ?_
  obtain ⟨V2, hV2⟩ : ∃ z, z = up1 V1 2 ((tN (U 0 0)) % 50) time := ⟨_, rfl⟩
  refine j_iast cx (pc := 24) 0 2 0 rfl rfl rfl (by omega) (by decide) (Bs' := [ntB (Y 0) a1 a2 a3 a4 (V2 0) (V2 1) (V2 2) (V2 3)]) (by rw [hV2]; rfl) dX4_append_24 ?_
  refine j_aload_n cx (pc := 25) dX4_append_25 1 rfl ?_
  refine j_get cx (pc := 26) 0 0 rfl rfl (C := RX4) (T := TX4) (N := 5) rfl hinX4 2 (by decide) f18 rfl (v := .ref a4) rfl dX4_append_26 ?_
  refine j_iload cx (pc := 29) dX4_append_29 0 rfl ?_
  refine j_iload_n cx (pc := 31) dX4_append_31 4 rfl ?_
  obtain ⟨V3, hV3⟩ : ∃ z, z = up1 V2 3 ((tN (U 0 0)) % 50) right := ⟨_, rfl⟩
  refine j_iast cx (pc := 32) 0 3 0 rfl rfl rfl (by omega) (by decide) (Bs' := [ntB (Y 0) a1 a2 a3 a4 (V3 0) (V3 1) (V3 2) (V3 3)]) (by rw [hV3]; rfl) dX4_append_32 ?_
  refine j_aload_n cx (pc := 33) dX4_append_33 1 rfl ?_
  refine j_dup cx (pc := 34) dX4_append_34 rfl ?_
  refine j_get cx (pc := 35) 0 0 rfl rfl (C := RX4) (T := TX4) (N := 5) rfl hinX4 3 (by decide) f21 rfl (v := .int (V3 0 0)) rfl dX4_append_35 ?_
  refine j_iconst cx (pc := 38) (v := (nI 1)) dX4_append_38 (by decide) ?_
  refine j_iadd cx (pc := 39) dX4_append_39 ?_
  obtain ⟨V4, hV4⟩ : ∃ z, z = up1 V3 0 0 ((V3 0 0) + (nI 1)) := ⟨_, rfl⟩
  refine j_put cx (pc := 40) 0 0 rfl rfl (C := RX4) (T := TX4) (N := 5) rfl hinX4 tyX4 tyX4_ok nmX4 3 (by decide) f21 rfl rfl rfl rfl (Nat.le_of_ble_eq_true rfl) (Bs' := [ntB (Y 0) a1 a2 a3 a4 (V4 0) (V4 1) (V4 2) (V4 3)]) (by rw [hV4]; rfl) dX4_append_40 ?_
  refine j_aload_n cx (pc := 43) dX4_append_43 1 rfl ?_
  refine j_dup cx (pc := 44) dX4_append_44 rfl ?_
  refine j_get cx (pc := 45) 0 0 rfl rfl (C := RX4) (T := TX4) (N := 5) rfl hinX4 4 (by decide) f25 rfl (v := .int (V4 0 1)) rfl dX4_append_45 ?_
  refine j_iload_n cx (pc := 48) dX4_append_48 4 rfl ?_
  refine j_iadd cx (pc := 49) dX4_append_49 ?_
  obtain ⟨V5, hV5⟩ : ∃ z, z = up1 V4 0 1 ((V4 0 1) + right) := ⟨_, rfl⟩
  refine j_put cx (pc := 50) 0 0 rfl rfl (C := RX4) (T := TX4) (N := 5) rfl hinX4 tyX4 tyX4_ok nmX4 4 (by decide) f25 rfl rfl rfl rfl (Nat.le_of_ble_eq_true rfl) (Bs' := [ntB (Y 0) a1 a2 a3 a4 (V5 0) (V5 1) (V5 2) (V5 3)]) (by rw [hV5]; rfl) dX4_append_50 ?_
  subst hQ; exact j_vret cx hr (by subst hV5; subst hV4; subst hV3; subst hV2; subst hV1; rfl) hA dX4_append_53
def C4_wrongWords (U : Nat → Nat → Int32)  : Int32 :=
  ((U 0 0) - (U 0 1))
def C4_tell (U : Nat → Nat → Int32) (rank : Int32) (what : Int32) : Int32 :=
  if rank < 0 then
    (-5)
  else
    if (U 0 0) ≤ rank then
      (-5)
    else
      if rank < (nI 50) then
        if what = nI 0 then
          (U 1 ((((tN (U 0 0)) - 1) - (tN rank)) % 50))
        else
          if what = nI 1 then
            (U 2 ((((tN (U 0 0)) - 1) - (tN rank)) % 50))
          else
            (U 3 ((((tN (U 0 0)) - 1) - (tN rank)) % 50))
      else
        (-5)
set_option maxHeartbeats 4000000 in
set_option maxRecDepth 100000 in
theorem c_X4_tell (l : Launch) (D : va_G) (Y : Nat → ClassId) (a1 a2 a3 a4 : Nat) (U : Nat → Nat → Int32) (rank : Int32) (what : Int32) (hc : ¬ U 0 0 < 0) : CtI l yX4_tell wsX4_tell 0 0 D (tyL Y) ([ntB (Y 0) a1 a2 a3 a4 (U 0) (U 1) (U 2) (U 3)]) [.ref a1, .int rank, .int what] (C4_tell U rank what) ([ntB (Y 0) a1 a2 a3 a4 (U 0) (U 1) (U 2) (U 3)]) := by
  refine CtI.intro (own := RX4) (cc := cX4_tell) (maxL := 4) rfl (by decide +kernel) rfl (Nat.le_of_ble_eq_true rfl) (fun p e s m args below meth c A Q hA hQ cx hr => ?_)
  have hinX4 : ∀ w ∈ wsX40, w ∈ wsX4_tell := by decide +kernel
  have f9 : Cond.fieldLink RX4 9 "FourPhases$Notes" "words" "[I" ∈ wsX4_tell := by decide +kernel
  have f15 : Cond.fieldLink RX4 15 "FourPhases$Notes" "times" "[I" ∈ wsX4_tell := by decide +kernel
  have f18 : Cond.fieldLink RX4 18 "FourPhases$Notes" "rights" "[I" ∈ wsX4_tell := by decide +kernel
  have f21 : Cond.fieldLink RX4 21 "FourPhases$Notes" "count" "I" ∈ wsX4_tell := by decide +kernel
  refine j_iload_n cx (pc := 0) dX4_tell_0 1 rfl ?_
  refine j_if_lt cx (pc := 1) (tgt := 18) dX4_tell_1 (by decide) (fun c1_1 => ?_) (fun c1_1 => ?_)
  · skip
    refine j_bipush cx (pc := 18) (v := (-5)) dX4_tell_18 (by decide) ?_
    subst hQ; exact j_iret cx hr (by simp only [C4_tell, if_pos c1_1]) rfl hA dX4_tell_20
  · skip
    refine j_iload_n cx (pc := 4) dX4_tell_4 1 rfl ?_
    refine j_aload_n cx (pc := 5) dX4_tell_5 0 rfl ?_
    refine j_get cx (pc := 6) 0 0 rfl rfl (C := RX4) (T := TX4) (N := 5) rfl hinX4 3 (by decide) f21 rfl (v := .int (U 0 0)) rfl dX4_tell_6 ?_
    refine j_icmp_ge cx (pc := 9) (tgt := 18) dX4_tell_9 (by decide) (fun c9_2 => ?_) (fun c9_2 => ?_)
    · skip
      refine j_bipush cx (pc := 18) (v := (-5)) dX4_tell_18 (by decide) ?_
      subst hQ; exact j_iret cx hr (by simp only [C4_tell, if_neg c1_1, if_pos c9_2]) rfl hA dX4_tell_20
    · skip
      refine j_iload_n cx (pc := 12) dX4_tell_12 1 rfl ?_
      refine j_bipush cx (pc := 13) (v := (nI 50)) dX4_tell_13 (by decide) ?_
      refine j_icmp_lt cx (pc := 15) (tgt := 21) dX4_tell_15 (by decide) (fun c15_3 => ?_) (fun c15_3 => ?_)
      · skip
        have hr1 : rank = nI (tN rank) := inG c1_1
        have hr2 : tN rank < tN (U 0 0) := (nI_ltI (tN_lt _) (tN_lt _)).mp (by rw [← hr1, ← inG hc]; exact Int32.not_le.mp c9_2)
        have hr3 : tN (U 0 0) < 2 ^ 31 := tN_lt _
        have hr4 : (tN (U 0 0) - 1 - tN rank) % 50 < 50 := Nat.mod_lt _ (by decide)
        refine j_aload_n cx (pc := 21) dX4_tell_21 0 rfl ?_
        refine j_get cx (pc := 22) 0 0 rfl rfl (C := RX4) (T := TX4) (N := 5) rfl hinX4 3 (by decide) f21 rfl (v := .int (U 0 0)) rfl dX4_tell_22 ?_
        refine j_top (show (U 0 0) = (nI (tN (U 0 0))) from inG hc) ?_
        refine j_iconst cx (pc := 25) (v := (nI 1)) dX4_tell_25 (by decide) ?_
        refine j_isubN cx (pc := 26) (by omega) dX4_tell_26 ?_
        refine j_iload_n cx (pc := 27) dX4_tell_27 1 rfl ?_
        refine j_top (show rank = (nI (tN rank)) from hr1) ?_
        refine j_isubN cx (pc := 28) (by omega) dX4_tell_28 ?_
        refine j_bipush cx (pc := 29) (v := (nI 50)) dX4_tell_29 (by decide) ?_
        refine j_iremN cx (pc := 31) (by omega) (by omega) (by omega) dX4_tell_31 ?_
        refine j_istore_n cx (pc := 32) (lv' := [(3, .int (nI ((((tN (U 0 0)) - 1) - (tN rank)) % 50))), (0, .ref a1), (1, .int rank), (2, .int what)]) dX4_tell_32 (by decide) rfl ?_
        refine j_iload_n cx (pc := 33) dX4_tell_33 3 rfl ?_
        by_cases s34_4 : what = nI 0
        · skip
          refine j_lookup cx (pc := 34) dX4_tell_34 (by decide) (off := 26) (by rw [s34_4]; decide) (tgt := 60) (by decide) ?_
          refine j_aload_n cx (pc := 60) dX4_tell_60 1 rfl ?_
          refine j_get cx (pc := 61) 0 0 rfl rfl (C := RX4) (T := TX4) (N := 5) rfl hinX4 0 (by decide) f9 rfl (v := .ref a2) rfl dX4_tell_61 ?_
          refine j_iload_n cx (pc := 64) dX4_tell_64 0 rfl ?_
          refine j_iald cx (pc := 65) 0 1 0 rfl rfl rfl (by omega) (by decide) dX4_tell_65 ?_
          subst hQ; exact j_iret cx hr (by simp only [C4_tell, if_neg c1_1, if_neg c9_2, if_pos c15_3, if_pos s34_4]) rfl hA dX4_tell_66
        by_cases s34_5 : what = nI 1
        · skip
          refine j_lookup cx (pc := 34) dX4_tell_34 (by decide) (off := 33) (by rw [s34_5]; decide) (tgt := 67) (by decide) ?_
          refine j_aload_n cx (pc := 67) dX4_tell_67 1 rfl ?_
          refine j_get cx (pc := 68) 0 0 rfl rfl (C := RX4) (T := TX4) (N := 5) rfl hinX4 1 (by decide) f15 rfl (v := .ref a3) rfl dX4_tell_68 ?_
          refine j_iload_n cx (pc := 71) dX4_tell_71 0 rfl ?_
          refine j_iald cx (pc := 72) 0 2 0 rfl rfl rfl (by omega) (by decide) dX4_tell_72 ?_
          subst hQ; exact j_iret cx hr (by simp only [C4_tell, if_neg c1_1, if_neg c9_2, if_pos c15_3, if_neg s34_4, if_pos s34_5]) rfl hA dX4_tell_73
        refine j_lookup cx (pc := 34) dX4_tell_34 (by decide) (off := 40) (sw_def _ _ _ (by intro q hq; simp only [List.mem_cons, List.not_mem_nil, or_false] at hq; rcases hq with rfl | rfl; exact ne_toInt (by decide) s34_4; exact ne_toInt (by decide) s34_5)) (tgt := 74) (by decide) ?_
        refine j_aload_n cx (pc := 74) dX4_tell_74 1 rfl ?_
        refine j_get cx (pc := 75) 0 0 rfl rfl (C := RX4) (T := TX4) (N := 5) rfl hinX4 2 (by decide) f18 rfl (v := .ref a4) rfl dX4_tell_75 ?_
        refine j_iload_n cx (pc := 78) dX4_tell_78 0 rfl ?_
        refine j_iald cx (pc := 79) 0 3 0 rfl rfl rfl (by omega) (by decide) dX4_tell_79 ?_
        subst hQ; exact j_iret cx hr (by simp only [C4_tell, if_neg c1_1, if_neg c9_2, if_pos c15_3, if_neg s34_4, if_neg s34_5]) rfl hA dX4_tell_80
      · skip
        refine j_bipush cx (pc := 18) (v := (-5)) dX4_tell_18 (by decide) ?_
        subst hQ; exact j_iret cx hr (by simp only [C4_tell, if_neg c1_1, if_neg c9_2, if_neg c15_3]) rfl hA dX4_tell_20
def C5_copyFrom (U : Nat → Nat → Int32) (W : Nat → Nat → Int32)  : Nat → Nat → Int32 :=
  let V1 := up1 U 0 0 (W 0 0)
  let V2 := setC V1 1 (va_cpy (W 1) (V1 1) 0 0 20)
  V2
set_option maxHeartbeats 4000000 in
set_option maxRecDepth 100000 in
theorem c_X5_copyFrom (l : Launch) (D : va_G) (Y : Nat → ClassId) (a1 a2 : Nat) (U : Nat → Nat → Int32) (a1b a2b : Nat) (W : Nat → Nat → Int32)   : CtV l yX5_copyFrom wsX5_copyFrom 1 40 D (tyL Y) ([rwB (Y 0) a1 a2 (U 0) (U 1)] ++ [rwB (Y 0) a1b a2b (W 0) (W 1)]) [.ref a1, .ref a1b] ([rwB (Y 0) a1 a2 ((C5_copyFrom U W ) 0) ((C5_copyFrom U W ) 1)] ++ [rwB (Y 0) a1b a2b (W 0) (W 1)]) := by
  refine CtV.intro (own := RX5) (cc := cX5_copyFrom) (maxL := 2) rfl (by decide +kernel) rfl (Nat.le_of_ble_eq_true rfl) (fun p e s m args below meth c A Q hA hQ cx hr => ?_)
  have hinX5 : ∀ w ∈ wsX50, w ∈ wsX5_copyFrom := by decide +kernel
  have f9 : Cond.fieldLink RX5 9 "FourPhases$Row" "words" "[I" ∈ wsX5_copyFrom := by decide +kernel
  have f15 : Cond.fieldLink RX5 15 "FourPhases$Row" "count" "I" ∈ wsX5_copyFrom := by decide +kernel
  refine j_aload_n cx (pc := 0) dX5_copyFrom_0 0 rfl ?_
  refine j_aload_n cx (pc := 1) dX5_copyFrom_1 1 rfl ?_
  refine j_get cx (pc := 2) 1 0 rfl rfl (C := RX5) (T := TX5) (N := 2) rfl hinX5 1 (by decide) f15 rfl (v := .int (W 0 0)) rfl dX5_copyFrom_2 ?_
  obtain ⟨V1, hV1⟩ : ∃ z, z = up1 U 0 0 (W 0 0) := ⟨_, rfl⟩
  refine j_put cx (pc := 5) 0 0 rfl rfl (C := RX5) (T := TX5) (N := 2) rfl hinX5 tyX5 tyX5_ok nmX5 1 (by decide) f15 rfl rfl rfl rfl (Nat.le_of_ble_eq_true rfl) (Bs' := [rwB (Y 0) a1 a2 (V1 0) (V1 1)] ++ [rwB (Y 0) a1b a2b (W 0) (W 1)]) (by rw [hV1]; rfl) dX5_copyFrom_5 ?_
  refine j_aload_n cx (pc := 8) dX5_copyFrom_8 1 rfl ?_
  refine j_get cx (pc := 9) 1 0 rfl rfl (C := RX5) (T := TX5) (N := 2) rfl hinX5 0 (by decide) f9 rfl (v := .ref a2b) rfl dX5_copyFrom_9 ?_
  refine j_iconst cx (pc := 12) (v := (nI 0)) dX5_copyFrom_12 (by decide) ?_
  refine j_aload_n cx (pc := 13) dX5_copyFrom_13 0 rfl ?_
  refine j_get cx (pc := 14) 0 0 rfl rfl (C := RX5) (T := TX5) (N := 2) rfl hinX5 0 (by decide) f9 rfl (v := .ref a2) rfl dX5_copyFrom_14 ?_
  refine j_iconst cx (pc := 17) (v := (nI 0)) dX5_copyFrom_17 (by decide) ?_
  refine j_bipush cx (pc := 18) (v := (nI 20)) dX5_copyFrom_18 (by decide) ?_
  obtain ⟨V2, hV2⟩ : ∃ z, z = setC V1 1 (va_cpy (W 1) (V1 1) 0 0 20) := ⟨_, rfl⟩
  refine j_copy cx (pc := 20) (show Cond.methodLink RX5 19 arraycopyName ∈ wsX5_copyFrom from by decide +kernel) (by decide +kernel) (by decide +kernel) (by decide +kernel) 1 1 0 1 0 rfl rfl rfl rfl rfl (by decide) (by decide) (by decide) (by decide) (by decide +kernel) (Bs' := [rwB (Y 0) a1 a2 (V2 0) (V2 1)] ++ [rwB (Y 0) a1b a2b (W 0) (W 1)]) (by rw [hV2]; rfl) dX5_copyFrom_20 ?_
  subst hQ; exact j_vret cx hr (by subst hV2; subst hV1; rfl) hA dX5_copyFrom_23
