def C2_copyFrom (V : Nat → Nat → Int32) (W : Nat → Nat → Int32)  : Nat → Nat → Int32 :=
  let V1 := up1 V 0 0 (W 0 0)
  let V2 := up1 V1 0 1 (W 0 1)
  let V3 := up1 V2 0 2 (W 0 2)
  let V4 := up1 V3 0 3 (W 0 3)
  let V5 := up1 V4 0 4 (W 0 4)
  let V6 := cpC V5 W 1 3
  let V7 := wr3_copyFrom V6 0 W
  let V8 := wr3_copyFrom V7 1 W
  let V9 := wr3_copyFrom V8 2 W
  let V10 := wr3_copyFrom V9 3 W
  let V11 := wr3_copyFrom V10 4 W
  let V12 := wr3_copyFrom V11 5 W
  let V13 := wr3_copyFrom V12 6 W
  let V14 := cpC V13 W 2 6
  let V15 := wr5_copyFrom V14 0 W
  let V16 := wr5_copyFrom V15 1 W
  let V17 := wr0_copyFrom V16 W
  let V18 := wr4_copyFrom V17 W
  let V19 := cpC V18 W 3 8
  V19
set_option maxHeartbeats 4000000 in
set_option maxRecDepth 100000 in
theorem c_X2_copyFrom (l : Launch) (D : va_G) (Y : Nat → ClassId) (ad : Nat → Nat) (V : Nat → Nat → Int32) (adb : Nat → Nat) (W : Nat → Nat → Int32)  (hbo : ∀ k : Nat, k < 7 → blOK (W (11 + k) 6) ∧ blOK (W (11 + k) 7)) : CtV l yX2_copyFrom wsX2_copyFrom 2 61 D (tyL Y) (LB Y ad V ++ LB Y adb W) [.ref (ad 0), .ref (adb 0)] (LB Y ad (C2_copyFrom V W ) ++ LB Y adb W) := by
  refine CtV.intro (own := RX2) (cc := cX2_copyFrom) (maxL := 3) rfl (by decide +kernel) rfl (Nat.le_of_ble_eq_true rfl) (fun p e s m args below meth c A Q hA hQ cx hr => ?_)
  have hinX2 : ∀ w ∈ wsX20, w ∈ wsX2_copyFrom := by decide +kernel
  have f9 : Cond.fieldLink RX2 9 "FourPhases$Line" "settings" "[I" ∈ wsX2_copyFrom := by decide +kernel
  have f17 : Cond.fieldLink RX2 17 "FourPhases$Line" "links" "[LFourPhases$Link;" ∈ wsX2_copyFrom := by decide +kernel
  have f21 : Cond.fieldLink RX2 21 "FourPhases$Line" "held" "[I" ∈ wsX2_copyFrom := by decide +kernel
  have f26 : Cond.fieldLink RX2 26 "FourPhases$Line" "rows" "[LFourPhases$Row;" ∈ wsX2_copyFrom := by decide +kernel
  have f33 : Cond.fieldLink RX2 33 "FourPhases$Line" "underWay" "LFourPhases$Changes;" ∈ wsX2_copyFrom := by decide +kernel
  have f40 : Cond.fieldLink RX2 40 "FourPhases$Line" "notes" "LFourPhases$Notes;" ∈ wsX2_copyFrom := by decide +kernel
  have f44 : Cond.fieldLink RX2 44 "FourPhases$Line" "offered" "[I" ∈ wsX2_copyFrom := by decide +kernel
  have f53 : Cond.fieldLink RX2 53 "FourPhases$Line" "stages" "I" ∈ wsX2_copyFrom := by decide +kernel
  have f57 : Cond.fieldLink RX2 57 "FourPhases$Line" "time" "I" ∈ wsX2_copyFrom := by decide +kernel
  have f60 : Cond.fieldLink RX2 60 "FourPhases$Line" "latestSender" "I" ∈ wsX2_copyFrom := by decide +kernel
  have f63 : Cond.fieldLink RX2 63 "FourPhases$Line" "offeredWords" "I" ∈ wsX2_copyFrom := by decide +kernel
  have f66 : Cond.fieldLink RX2 66 "FourPhases$Line" "arrivedChanges" "I" ∈ wsX2_copyFrom := by decide +kernel
  refine j_aload_n cx (pc := 0) dX2_copyFrom_0 0 rfl ?_
  refine j_aload_n cx (pc := 1) dX2_copyFrom_1 1 rfl ?_
  refine j_get cx (pc := 2) 12 0 rfl rfl (C := RX2) (T := TX2) (N := 12) rfl hinX2 0 (by decide) f53 rfl (v := .int (W 0 0)) rfl dX2_copyFrom_2 ?_
  obtain ⟨V1, hV1⟩ : ∃ z, z = up1 V 0 0 (W 0 0) := ⟨_, rfl⟩
  refine j_put cx (pc := 5) 0 0 rfl rfl (C := RX2) (T := TX2) (N := 12) rfl hinX2 tyX2 tyX2_ok nmX2 0 (by decide) f53 rfl rfl rfl rfl (Nat.le_of_ble_eq_true rfl) (Bs' := LB Y ad V1 ++ LB Y adb W) (by rw [hV1]; rfl) dX2_copyFrom_5 ?_
  refine j_aload_n cx (pc := 8) dX2_copyFrom_8 0 rfl ?_
  refine j_aload_n cx (pc := 9) dX2_copyFrom_9 1 rfl ?_
  refine j_get cx (pc := 10) 12 0 rfl rfl (C := RX2) (T := TX2) (N := 12) rfl hinX2 1 (by decide) f57 rfl (v := .int (W 0 1)) rfl dX2_copyFrom_10 ?_
  obtain ⟨V2, hV2⟩ : ∃ z, z = up1 V1 0 1 (W 0 1) := ⟨_, rfl⟩
  refine j_put cx (pc := 13) 0 0 rfl rfl (C := RX2) (T := TX2) (N := 12) rfl hinX2 tyX2 tyX2_ok nmX2 1 (by decide) f57 rfl rfl rfl rfl (Nat.le_of_ble_eq_true rfl) (Bs' := LB Y ad V2 ++ LB Y adb W) (by rw [hV2]; rfl) dX2_copyFrom_13 ?_
  refine j_aload_n cx (pc := 16) dX2_copyFrom_16 0 rfl ?_
  refine j_aload_n cx (pc := 17) dX2_copyFrom_17 1 rfl ?_
  refine j_get cx (pc := 18) 12 0 rfl rfl (C := RX2) (T := TX2) (N := 12) rfl hinX2 2 (by decide) f60 rfl (v := .int (W 0 2)) rfl dX2_copyFrom_18 ?_
  obtain ⟨V3, hV3⟩ : ∃ z, z = up1 V2 0 2 (W 0 2) := ⟨_, rfl⟩
  refine j_put cx (pc := 21) 0 0 rfl rfl (C := RX2) (T := TX2) (N := 12) rfl hinX2 tyX2 tyX2_ok nmX2 2 (by decide) f60 rfl rfl rfl rfl (Nat.le_of_ble_eq_true rfl) (Bs' := LB Y ad V3 ++ LB Y adb W) (by rw [hV3]; rfl) dX2_copyFrom_21 ?_
  refine j_aload_n cx (pc := 24) dX2_copyFrom_24 0 rfl ?_
  refine j_aload_n cx (pc := 25) dX2_copyFrom_25 1 rfl ?_
  refine j_get cx (pc := 26) 12 0 rfl rfl (C := RX2) (T := TX2) (N := 12) rfl hinX2 3 (by decide) f63 rfl (v := .int (W 0 3)) rfl dX2_copyFrom_26 ?_
  obtain ⟨V4, hV4⟩ : ∃ z, z = up1 V3 0 3 (W 0 3) := ⟨_, rfl⟩
  refine j_put cx (pc := 29) 0 0 rfl rfl (C := RX2) (T := TX2) (N := 12) rfl hinX2 tyX2 tyX2_ok nmX2 3 (by decide) f63 rfl rfl rfl rfl (Nat.le_of_ble_eq_true rfl) (Bs' := LB Y ad V4 ++ LB Y adb W) (by rw [hV4]; rfl) dX2_copyFrom_29 ?_
  refine j_aload_n cx (pc := 32) dX2_copyFrom_32 0 rfl ?_
  refine j_aload_n cx (pc := 33) dX2_copyFrom_33 1 rfl ?_
  refine j_get cx (pc := 34) 12 0 rfl rfl (C := RX2) (T := TX2) (N := 12) rfl hinX2 4 (by decide) f66 rfl (v := .int (W 0 4)) rfl dX2_copyFrom_34 ?_
  obtain ⟨V5, hV5⟩ : ∃ z, z = up1 V4 0 4 (W 0 4) := ⟨_, rfl⟩
  refine j_put cx (pc := 37) 0 0 rfl rfl (C := RX2) (T := TX2) (N := 12) rfl hinX2 tyX2 tyX2_ok nmX2 4 (by decide) f66 rfl rfl rfl rfl (Nat.le_of_ble_eq_true rfl) (Bs' := LB Y ad V5 ++ LB Y adb W) (by rw [hV5]; rfl) dX2_copyFrom_37 ?_
  refine j_aload_n cx (pc := 40) dX2_copyFrom_40 1 rfl ?_
  refine j_get cx (pc := 41) 12 0 rfl rfl (C := RX2) (T := TX2) (N := 12) rfl hinX2 5 (by decide) f9 rfl (v := .ref (adb 1)) rfl dX2_copyFrom_41 ?_
  refine j_iconst cx (pc := 44) (v := (nI 0)) dX2_copyFrom_44 (by decide) ?_
  refine j_aload_n cx (pc := 45) dX2_copyFrom_45 0 rfl ?_
  refine j_get cx (pc := 46) 0 0 rfl rfl (C := RX2) (T := TX2) (N := 12) rfl hinX2 5 (by decide) f9 rfl (v := .ref (ad 1)) rfl dX2_copyFrom_46 ?_
  refine j_iconst cx (pc := 49) (v := (nI 0)) dX2_copyFrom_49 (by decide) ?_
  refine j_iconst cx (pc := 50) (v := (nI 3)) dX2_copyFrom_50 (by decide) ?_
  obtain ⟨V6, hV6⟩ : ∃ z, z = cpC V5 W 1 3 := ⟨_, rfl⟩
  refine j_copy cx (pc := 51) (show Cond.methodLink RX2 77 arraycopyName ∈ wsX2_copyFrom from by decide +kernel) (by decide +kernel) (by decide +kernel) (by decide +kernel) 12 1 0 1 0 rfl rfl rfl rfl rfl (by decide) (by decide) (by decide) (by decide) (by decide +kernel) (Bs' := LB Y ad V6 ++ LB Y adb W) (by rw [hV6]; rfl) dX2_copyFrom_51 ?_
  refine j_iconst cx (pc := 54) (v := (nI 0)) dX2_copyFrom_54 (by decide) ?_
  refine j_istore_n cx (pc := 55) (lv' := [(2, .int (nI 0)), (0, .ref (ad 0)), (1, .ref (adb 0))]) dX2_copyFrom_55 (by decide) rfl ?_
  refine j_iload_n cx (pc := 56) dX2_copyFrom_56 0 rfl ?_
  refine j_bipush cx (pc := 57) (v := (nI 7)) dX2_copyFrom_57 (by decide) ?_
  refine j_icmpN_ge cx (pc := 59) (by decide) (by decide) (tgt := 83) dX2_copyFrom_59 (by decide) (fun c59_1 => by exfalso; revert c59_1; decide) (fun c59_1 => ?_)
  refine j_aload_n cx (pc := 62) dX2_copyFrom_62 1 rfl ?_
  refine j_get cx (pc := 63) 0 0 rfl rfl (C := RX2) (T := TX2) (N := 12) rfl hinX2 6 (by decide) f17 rfl (v := .ref (ad 2)) rfl dX2_copyFrom_63 ?_
  refine j_iload_n cx (pc := 66) dX2_copyFrom_66 0 rfl ?_
  refine j_aald cx (pc := 67) 0 2 3 rfl rfl rfl (by decide) (by decide) (a' := (ad 13)) rfl dX2_copyFrom_67 ?_
  refine j_aload_n cx (pc := 68) dX2_copyFrom_68 2 rfl ?_
  refine j_get cx (pc := 69) 12 0 rfl rfl (C := RX2) (T := TX2) (N := 12) rfl hinX2 6 (by decide) f17 rfl (v := .ref (adb 2)) rfl dX2_copyFrom_69 ?_
  refine j_iload_n cx (pc := 72) dX2_copyFrom_72 0 rfl ?_
  refine j_aald cx (pc := 73) 12 2 3 rfl rfl rfl (by decide) (by decide) (a' := (adb 13)) rfl dX2_copyFrom_73 ?_
  obtain ⟨V7, hV7⟩ : ∃ z, z = wr3_copyFrom V6 0 W := ⟨_, rfl⟩
  refine j_callv cx (pc := 74) 1 (c_X3_copyFrom l D Y (ad 13) (ad 14) (lkU V6 0) (adb 13) (adb 14) (lkU W 0)  (hbo 0 (by decide)).1 (hbo 0 (by decide)).2) gX2_copyFrom_X3_copyFrom rfl (by decide +kernel) rfl ⟨Nat.le_of_ble_eq_true rfl, Nat.le_of_ble_eq_true rfl⟩ [3, 15] rfl (by decide) (Bs' := LB Y ad V7 ++ LB Y adb W) (by rw [hV7]; exact P2_lk Y ad V6 (C3_copyFrom (lkU V6 0) (lkU W 0)) adb W (k := 0) (by decide)) (A2_1 A1_lk) 3 0 rfl rfl rfl rfl (Nat.le_of_ble_eq_true rfl) dX2_copyFrom_74 ⟨Nat.zero_le _, Nat.zero_le _⟩ ?_
  refine j_iinc cx (pc := 77) (v := (nI 1)) (lv' := [(2, .int (nI 1)), (0, .ref (ad 0)), (1, .ref (adb 0))]) dX2_copyFrom_77 0 rfl rfl (by decide) rfl ?_
  refine j_goto cx (pc := 80) (tgt := 56) dX2_copyFrom_80 (by decide) ?_
  refine j_iload_n cx (pc := 56) dX2_copyFrom_56 0 rfl ?_
  refine j_bipush cx (pc := 57) (v := (nI 7)) dX2_copyFrom_57 (by decide) ?_
  refine j_icmpN_ge cx (pc := 59) (by decide) (by decide) (tgt := 83) dX2_copyFrom_59 (by decide) (fun c59_2 => by exfalso; revert c59_2; decide) (fun c59_2 => ?_)
  refine j_aload_n cx (pc := 62) dX2_copyFrom_62 1 rfl ?_
  refine j_get cx (pc := 63) 0 0 rfl rfl (C := RX2) (T := TX2) (N := 12) rfl hinX2 6 (by decide) f17 rfl (v := .ref (ad 2)) rfl dX2_copyFrom_63 ?_
  refine j_iload_n cx (pc := 66) dX2_copyFrom_66 0 rfl ?_
  refine j_aald cx (pc := 67) 0 2 3 rfl rfl rfl (by decide) (by decide) (a' := (ad 15)) rfl dX2_copyFrom_67 ?_
  refine j_aload_n cx (pc := 68) dX2_copyFrom_68 2 rfl ?_
  refine j_get cx (pc := 69) 12 0 rfl rfl (C := RX2) (T := TX2) (N := 12) rfl hinX2 6 (by decide) f17 rfl (v := .ref (adb 2)) rfl dX2_copyFrom_69 ?_
  refine j_iload_n cx (pc := 72) dX2_copyFrom_72 0 rfl ?_
  refine j_aald cx (pc := 73) 12 2 3 rfl rfl rfl (by decide) (by decide) (a' := (adb 15)) rfl dX2_copyFrom_73 ?_
  obtain ⟨V8, hV8⟩ : ∃ z, z = wr3_copyFrom V7 1 W := ⟨_, rfl⟩
  refine j_callv cx (pc := 74) 1 (c_X3_copyFrom l D Y (ad 15) (ad 16) (lkU V7 1) (adb 15) (adb 16) (lkU W 1)  (hbo 1 (by decide)).1 (hbo 1 (by decide)).2) gX2_copyFrom_X3_copyFrom rfl (by decide +kernel) rfl ⟨Nat.le_of_ble_eq_true rfl, Nat.le_of_ble_eq_true rfl⟩ [4, 16] rfl (by decide) (Bs' := LB Y ad V8 ++ LB Y adb W) (by rw [hV8]; exact P2_lk Y ad V7 (C3_copyFrom (lkU V7 1) (lkU W 1)) adb W (k := 1) (by decide)) (A2_1 A1_lk) 4 0 rfl rfl rfl rfl (Nat.le_of_ble_eq_true rfl) dX2_copyFrom_74 ⟨Nat.zero_le _, Nat.zero_le _⟩ ?_
  refine j_iinc cx (pc := 77) (v := (nI 2)) (lv' := [(2, .int (nI 2)), (0, .ref (ad 0)), (1, .ref (adb 0))]) dX2_copyFrom_77 0 rfl rfl (by decide) rfl ?_
  refine j_goto cx (pc := 80) (tgt := 56) dX2_copyFrom_80 (by decide) ?_
  refine j_iload_n cx (pc := 56) dX2_copyFrom_56 0 rfl ?_
  refine j_bipush cx (pc := 57) (v := (nI 7)) dX2_copyFrom_57 (by decide) ?_
  refine j_icmpN_ge cx (pc := 59) (by decide) (by decide) (tgt := 83) dX2_copyFrom_59 (by decide) (fun c59_3 => by exfalso; revert c59_3; decide) (fun c59_3 => ?_)
  refine j_aload_n cx (pc := 62) dX2_copyFrom_62 1 rfl ?_
  refine j_get cx (pc := 63) 0 0 rfl rfl (C := RX2) (T := TX2) (N := 12) rfl hinX2 6 (by decide) f17 rfl (v := .ref (ad 2)) rfl dX2_copyFrom_63 ?_
  refine j_iload_n cx (pc := 66) dX2_copyFrom_66 0 rfl ?_
  refine j_aald cx (pc := 67) 0 2 3 rfl rfl rfl (by decide) (by decide) (a' := (ad 17)) rfl dX2_copyFrom_67 ?_
  refine j_aload_n cx (pc := 68) dX2_copyFrom_68 2 rfl ?_
  refine j_get cx (pc := 69) 12 0 rfl rfl (C := RX2) (T := TX2) (N := 12) rfl hinX2 6 (by decide) f17 rfl (v := .ref (adb 2)) rfl dX2_copyFrom_69 ?_
  refine j_iload_n cx (pc := 72) dX2_copyFrom_72 0 rfl ?_
  refine j_aald cx (pc := 73) 12 2 3 rfl rfl rfl (by decide) (by decide) (a' := (adb 17)) rfl dX2_copyFrom_73 ?_
  obtain ⟨V9, hV9⟩ : ∃ z, z = wr3_copyFrom V8 2 W := ⟨_, rfl⟩
  refine j_callv cx (pc := 74) 1 (c_X3_copyFrom l D Y (ad 17) (ad 18) (lkU V8 2) (adb 17) (adb 18) (lkU W 2)  (hbo 2 (by decide)).1 (hbo 2 (by decide)).2) gX2_copyFrom_X3_copyFrom rfl (by decide +kernel) rfl ⟨Nat.le_of_ble_eq_true rfl, Nat.le_of_ble_eq_true rfl⟩ [5, 17] rfl (by decide) (Bs' := LB Y ad V9 ++ LB Y adb W) (by rw [hV9]; exact P2_lk Y ad V8 (C3_copyFrom (lkU V8 2) (lkU W 2)) adb W (k := 2) (by decide)) (A2_1 A1_lk) 5 0 rfl rfl rfl rfl (Nat.le_of_ble_eq_true rfl) dX2_copyFrom_74 ⟨Nat.zero_le _, Nat.zero_le _⟩ ?_
  refine j_iinc cx (pc := 77) (v := (nI 3)) (lv' := [(2, .int (nI 3)), (0, .ref (ad 0)), (1, .ref (adb 0))]) dX2_copyFrom_77 0 rfl rfl (by decide) rfl ?_
  refine j_goto cx (pc := 80) (tgt := 56) dX2_copyFrom_80 (by decide) ?_
  refine j_iload_n cx (pc := 56) dX2_copyFrom_56 0 rfl ?_
  refine j_bipush cx (pc := 57) (v := (nI 7)) dX2_copyFrom_57 (by decide) ?_
  refine j_icmpN_ge cx (pc := 59) (by decide) (by decide) (tgt := 83) dX2_copyFrom_59 (by decide) (fun c59_4 => by exfalso; revert c59_4; decide) (fun c59_4 => ?_)
  refine j_aload_n cx (pc := 62) dX2_copyFrom_62 1 rfl ?_
  refine j_get cx (pc := 63) 0 0 rfl rfl (C := RX2) (T := TX2) (N := 12) rfl hinX2 6 (by decide) f17 rfl (v := .ref (ad 2)) rfl dX2_copyFrom_63 ?_
  refine j_iload_n cx (pc := 66) dX2_copyFrom_66 0 rfl ?_
  refine j_aald cx (pc := 67) 0 2 3 rfl rfl rfl (by decide) (by decide) (a' := (ad 19)) rfl dX2_copyFrom_67 ?_
  refine j_aload_n cx (pc := 68) dX2_copyFrom_68 2 rfl ?_
  refine j_get cx (pc := 69) 12 0 rfl rfl (C := RX2) (T := TX2) (N := 12) rfl hinX2 6 (by decide) f17 rfl (v := .ref (adb 2)) rfl dX2_copyFrom_69 ?_
  refine j_iload_n cx (pc := 72) dX2_copyFrom_72 0 rfl ?_
  refine j_aald cx (pc := 73) 12 2 3 rfl rfl rfl (by decide) (by decide) (a' := (adb 19)) rfl dX2_copyFrom_73 ?_
  obtain ⟨V10, hV10⟩ : ∃ z, z = wr3_copyFrom V9 3 W := ⟨_, rfl⟩
  refine j_callv cx (pc := 74) 1 (c_X3_copyFrom l D Y (ad 19) (ad 20) (lkU V9 3) (adb 19) (adb 20) (lkU W 3)  (hbo 3 (by decide)).1 (hbo 3 (by decide)).2) gX2_copyFrom_X3_copyFrom rfl (by decide +kernel) rfl ⟨Nat.le_of_ble_eq_true rfl, Nat.le_of_ble_eq_true rfl⟩ [6, 18] rfl (by decide) (Bs' := LB Y ad V10 ++ LB Y adb W) (by rw [hV10]; exact P2_lk Y ad V9 (C3_copyFrom (lkU V9 3) (lkU W 3)) adb W (k := 3) (by decide)) (A2_1 A1_lk) 6 0 rfl rfl rfl rfl (Nat.le_of_ble_eq_true rfl) dX2_copyFrom_74 ⟨Nat.zero_le _, Nat.zero_le _⟩ ?_
  refine j_iinc cx (pc := 77) (v := (nI 4)) (lv' := [(2, .int (nI 4)), (0, .ref (ad 0)), (1, .ref (adb 0))]) dX2_copyFrom_77 0 rfl rfl (by decide) rfl ?_
  refine j_goto cx (pc := 80) (tgt := 56) dX2_copyFrom_80 (by decide) ?_
  refine j_iload_n cx (pc := 56) dX2_copyFrom_56 0 rfl ?_
  refine j_bipush cx (pc := 57) (v := (nI 7)) dX2_copyFrom_57 (by decide) ?_
  refine j_icmpN_ge cx (pc := 59) (by decide) (by decide) (tgt := 83) dX2_copyFrom_59 (by decide) (fun c59_5 => by exfalso; revert c59_5; decide) (fun c59_5 => ?_)
  refine j_aload_n cx (pc := 62) dX2_copyFrom_62 1 rfl ?_
  refine j_get cx (pc := 63) 0 0 rfl rfl (C := RX2) (T := TX2) (N := 12) rfl hinX2 6 (by decide) f17 rfl (v := .ref (ad 2)) rfl dX2_copyFrom_63 ?_
  refine j_iload_n cx (pc := 66) dX2_copyFrom_66 0 rfl ?_
  refine j_aald cx (pc := 67) 0 2 3 rfl rfl rfl (by decide) (by decide) (a' := (ad 21)) rfl dX2_copyFrom_67 ?_
  refine j_aload_n cx (pc := 68) dX2_copyFrom_68 2 rfl ?_
  refine j_get cx (pc := 69) 12 0 rfl rfl (C := RX2) (T := TX2) (N := 12) rfl hinX2 6 (by decide) f17 rfl (v := .ref (adb 2)) rfl dX2_copyFrom_69 ?_
  refine j_iload_n cx (pc := 72) dX2_copyFrom_72 0 rfl ?_
  refine j_aald cx (pc := 73) 12 2 3 rfl rfl rfl (by decide) (by decide) (a' := (adb 21)) rfl dX2_copyFrom_73 ?_
  obtain ⟨V11, hV11⟩ : ∃ z, z = wr3_copyFrom V10 4 W := ⟨_, rfl⟩
  refine j_callv cx (pc := 74) 1 (c_X3_copyFrom l D Y (ad 21) (ad 22) (lkU V10 4) (adb 21) (adb 22) (lkU W 4)  (hbo 4 (by decide)).1 (hbo 4 (by decide)).2) gX2_copyFrom_X3_copyFrom rfl (by decide +kernel) rfl ⟨Nat.le_of_ble_eq_true rfl, Nat.le_of_ble_eq_true rfl⟩ [7, 19] rfl (by decide) (Bs' := LB Y ad V11 ++ LB Y adb W) (by rw [hV11]; exact P2_lk Y ad V10 (C3_copyFrom (lkU V10 4) (lkU W 4)) adb W (k := 4) (by decide)) (A2_1 A1_lk) 7 0 rfl rfl rfl rfl (Nat.le_of_ble_eq_true rfl) dX2_copyFrom_74 ⟨Nat.zero_le _, Nat.zero_le _⟩ ?_
  refine j_iinc cx (pc := 77) (v := (nI 5)) (lv' := [(2, .int (nI 5)), (0, .ref (ad 0)), (1, .ref (adb 0))]) dX2_copyFrom_77 0 rfl rfl (by decide) rfl ?_
  refine j_goto cx (pc := 80) (tgt := 56) dX2_copyFrom_80 (by decide) ?_
  refine j_iload_n cx (pc := 56) dX2_copyFrom_56 0 rfl ?_
  refine j_bipush cx (pc := 57) (v := (nI 7)) dX2_copyFrom_57 (by decide) ?_
  refine j_icmpN_ge cx (pc := 59) (by decide) (by decide) (tgt := 83) dX2_copyFrom_59 (by decide) (fun c59_6 => by exfalso; revert c59_6; decide) (fun c59_6 => ?_)
  refine j_aload_n cx (pc := 62) dX2_copyFrom_62 1 rfl ?_
  refine j_get cx (pc := 63) 0 0 rfl rfl (C := RX2) (T := TX2) (N := 12) rfl hinX2 6 (by decide) f17 rfl (v := .ref (ad 2)) rfl dX2_copyFrom_63 ?_
  refine j_iload_n cx (pc := 66) dX2_copyFrom_66 0 rfl ?_
  refine j_aald cx (pc := 67) 0 2 3 rfl rfl rfl (by decide) (by decide) (a' := (ad 23)) rfl dX2_copyFrom_67 ?_
  refine j_aload_n cx (pc := 68) dX2_copyFrom_68 2 rfl ?_
  refine j_get cx (pc := 69) 12 0 rfl rfl (C := RX2) (T := TX2) (N := 12) rfl hinX2 6 (by decide) f17 rfl (v := .ref (adb 2)) rfl dX2_copyFrom_69 ?_
  refine j_iload_n cx (pc := 72) dX2_copyFrom_72 0 rfl ?_
  refine j_aald cx (pc := 73) 12 2 3 rfl rfl rfl (by decide) (by decide) (a' := (adb 23)) rfl dX2_copyFrom_73 ?_
  obtain ⟨V12, hV12⟩ : ∃ z, z = wr3_copyFrom V11 5 W := ⟨_, rfl⟩
  refine j_callv cx (pc := 74) 1 (c_X3_copyFrom l D Y (ad 23) (ad 24) (lkU V11 5) (adb 23) (adb 24) (lkU W 5)  (hbo 5 (by decide)).1 (hbo 5 (by decide)).2) gX2_copyFrom_X3_copyFrom rfl (by decide +kernel) rfl ⟨Nat.le_of_ble_eq_true rfl, Nat.le_of_ble_eq_true rfl⟩ [8, 20] rfl (by decide) (Bs' := LB Y ad V12 ++ LB Y adb W) (by rw [hV12]; exact P2_lk Y ad V11 (C3_copyFrom (lkU V11 5) (lkU W 5)) adb W (k := 5) (by decide)) (A2_1 A1_lk) 8 0 rfl rfl rfl rfl (Nat.le_of_ble_eq_true rfl) dX2_copyFrom_74 ⟨Nat.zero_le _, Nat.zero_le _⟩ ?_
  refine j_iinc cx (pc := 77) (v := (nI 6)) (lv' := [(2, .int (nI 6)), (0, .ref (ad 0)), (1, .ref (adb 0))]) dX2_copyFrom_77 0 rfl rfl (by decide) rfl ?_
  refine j_goto cx (pc := 80) (tgt := 56) dX2_copyFrom_80 (by decide) ?_
  refine j_iload_n cx (pc := 56) dX2_copyFrom_56 0 rfl ?_
  refine j_bipush cx (pc := 57) (v := (nI 7)) dX2_copyFrom_57 (by decide) ?_
  refine j_icmpN_ge cx (pc := 59) (by decide) (by decide) (tgt := 83) dX2_copyFrom_59 (by decide) (fun c59_7 => by exfalso; revert c59_7; decide) (fun c59_7 => ?_)
  refine j_aload_n cx (pc := 62) dX2_copyFrom_62 1 rfl ?_
  refine j_get cx (pc := 63) 0 0 rfl rfl (C := RX2) (T := TX2) (N := 12) rfl hinX2 6 (by decide) f17 rfl (v := .ref (ad 2)) rfl dX2_copyFrom_63 ?_
  refine j_iload_n cx (pc := 66) dX2_copyFrom_66 0 rfl ?_
  refine j_aald cx (pc := 67) 0 2 3 rfl rfl rfl (by decide) (by decide) (a' := (ad 25)) rfl dX2_copyFrom_67 ?_
  refine j_aload_n cx (pc := 68) dX2_copyFrom_68 2 rfl ?_
  refine j_get cx (pc := 69) 12 0 rfl rfl (C := RX2) (T := TX2) (N := 12) rfl hinX2 6 (by decide) f17 rfl (v := .ref (adb 2)) rfl dX2_copyFrom_69 ?_
  refine j_iload_n cx (pc := 72) dX2_copyFrom_72 0 rfl ?_
  refine j_aald cx (pc := 73) 12 2 3 rfl rfl rfl (by decide) (by decide) (a' := (adb 25)) rfl dX2_copyFrom_73 ?_
  obtain ⟨V13, hV13⟩ : ∃ z, z = wr3_copyFrom V12 6 W := ⟨_, rfl⟩
  refine j_callv cx (pc := 74) 1 (c_X3_copyFrom l D Y (ad 25) (ad 26) (lkU V12 6) (adb 25) (adb 26) (lkU W 6)  (hbo 6 (by decide)).1 (hbo 6 (by decide)).2) gX2_copyFrom_X3_copyFrom rfl (by decide +kernel) rfl ⟨Nat.le_of_ble_eq_true rfl, Nat.le_of_ble_eq_true rfl⟩ [9, 21] rfl (by decide) (Bs' := LB Y ad V13 ++ LB Y adb W) (by rw [hV13]; exact P2_lk Y ad V12 (C3_copyFrom (lkU V12 6) (lkU W 6)) adb W (k := 6) (by decide)) (A2_1 A1_lk) 9 0 rfl rfl rfl rfl (Nat.le_of_ble_eq_true rfl) dX2_copyFrom_74 ⟨Nat.zero_le _, Nat.zero_le _⟩ ?_
  refine j_iinc cx (pc := 77) (v := (nI 7)) (lv' := [(2, .int (nI 7)), (0, .ref (ad 0)), (1, .ref (adb 0))]) dX2_copyFrom_77 0 rfl rfl (by decide) rfl ?_
  refine j_goto cx (pc := 80) (tgt := 56) dX2_copyFrom_80 (by decide) ?_
  refine j_iload_n cx (pc := 56) dX2_copyFrom_56 0 rfl ?_
  refine j_bipush cx (pc := 57) (v := (nI 7)) dX2_copyFrom_57 (by decide) ?_
  refine j_icmpN_ge cx (pc := 59) (by decide) (by decide) (tgt := 83) dX2_copyFrom_59 (by decide) (fun c59_8 => ?_) (fun c59_8 => by exfalso; revert c59_8; decide)
  refine j_aload_n cx (pc := 83) dX2_copyFrom_83 2 rfl ?_
  refine j_get cx (pc := 84) 12 0 rfl rfl (C := RX2) (T := TX2) (N := 12) rfl hinX2 7 (by decide) f21 rfl (v := .ref (adb 3)) rfl dX2_copyFrom_84 ?_
  refine j_iconst cx (pc := 87) (v := (nI 0)) dX2_copyFrom_87 (by decide) ?_
  refine j_aload_n cx (pc := 88) dX2_copyFrom_88 1 rfl ?_
  refine j_get cx (pc := 89) 0 0 rfl rfl (C := RX2) (T := TX2) (N := 12) rfl hinX2 7 (by decide) f21 rfl (v := .ref (ad 3)) rfl dX2_copyFrom_89 ?_
  refine j_iconst cx (pc := 92) (v := (nI 0)) dX2_copyFrom_92 (by decide) ?_
  refine j_bipush cx (pc := 93) (v := (nI 6)) dX2_copyFrom_93 (by decide) ?_
  obtain ⟨V14, hV14⟩ : ∃ z, z = cpC V13 W 2 6 := ⟨_, rfl⟩
  refine j_copy cx (pc := 95) (show Cond.methodLink RX2 77 arraycopyName ∈ wsX2_copyFrom from by decide +kernel) (by decide +kernel) (by decide +kernel) (by decide +kernel) 12 3 0 3 0 rfl rfl rfl rfl rfl (by decide) (by decide) (by decide) (by decide) (by decide +kernel) (Bs' := LB Y ad V14 ++ LB Y adb W) (by rw [hV14]; rfl) dX2_copyFrom_95 ?_
  refine j_iconst cx (pc := 98) (v := (nI 0)) dX2_copyFrom_98 (by decide) ?_
  refine j_istore_n cx (pc := 99) (lv' := [(2, .int (nI 0)), (0, .ref (ad 0)), (1, .ref (adb 0))]) dX2_copyFrom_99 (by decide) rfl ?_
  refine j_iload_n cx (pc := 100) dX2_copyFrom_100 0 rfl ?_
  refine j_iconst cx (pc := 101) (v := (nI 2)) dX2_copyFrom_101 (by decide) ?_
  refine j_icmpN_ge cx (pc := 102) (by decide) (by decide) (tgt := 126) dX2_copyFrom_102 (by decide) (fun c102_9 => by exfalso; revert c102_9; decide) (fun c102_9 => ?_)
  refine j_aload_n cx (pc := 105) dX2_copyFrom_105 1 rfl ?_
  refine j_get cx (pc := 106) 0 0 rfl rfl (C := RX2) (T := TX2) (N := 12) rfl hinX2 8 (by decide) f26 rfl (v := .ref (ad 4)) rfl dX2_copyFrom_106 ?_
  refine j_iload_n cx (pc := 109) dX2_copyFrom_109 0 rfl ?_
  refine j_aald cx (pc := 110) 0 4 4 rfl rfl rfl (by decide) (by decide) (a' := (ad 27)) rfl dX2_copyFrom_110 ?_
  refine j_aload_n cx (pc := 111) dX2_copyFrom_111 2 rfl ?_
  refine j_get cx (pc := 112) 12 0 rfl rfl (C := RX2) (T := TX2) (N := 12) rfl hinX2 8 (by decide) f26 rfl (v := .ref (adb 4)) rfl dX2_copyFrom_112 ?_
  refine j_iload_n cx (pc := 115) dX2_copyFrom_115 0 rfl ?_
  refine j_aald cx (pc := 116) 12 4 4 rfl rfl rfl (by decide) (by decide) (a' := (adb 27)) rfl dX2_copyFrom_116 ?_
  obtain ⟨V15, hV15⟩ : ∃ z, z = wr5_copyFrom V14 0 W := ⟨_, rfl⟩
  refine j_callv cx (pc := 117) 1 (c_X5_copyFrom l D Y (ad 27) (ad 28) (rwU V14 0) (adb 27) (adb 28) (rwU W 0)  ) gX2_copyFrom_X5_copyFrom rfl (by decide +kernel) rfl ⟨Nat.le_of_ble_eq_true rfl, Nat.le_of_ble_eq_true rfl⟩ [10, 22] rfl (by decide) (Bs' := LB Y ad V15 ++ LB Y adb W) (by rw [hV15]; exact P2_rw Y ad V14 (C5_copyFrom (rwU V14 0) (rwU W 0)) adb W (k := 0) (by decide)) (A2_1 A1_rw) 10 0 rfl rfl rfl rfl (Nat.le_of_ble_eq_true rfl) dX2_copyFrom_117 ⟨Nat.zero_le _, Nat.zero_le _⟩ ?_
  refine j_iinc cx (pc := 120) (v := (nI 1)) (lv' := [(2, .int (nI 1)), (0, .ref (ad 0)), (1, .ref (adb 0))]) dX2_copyFrom_120 0 rfl rfl (by decide) rfl ?_
  refine j_goto cx (pc := 123) (tgt := 100) dX2_copyFrom_123 (by decide) ?_
  refine j_iload_n cx (pc := 100) dX2_copyFrom_100 0 rfl ?_
  refine j_iconst cx (pc := 101) (v := (nI 2)) dX2_copyFrom_101 (by decide) ?_
  refine j_icmpN_ge cx (pc := 102) (by decide) (by decide) (tgt := 126) dX2_copyFrom_102 (by decide) (fun c102_10 => by exfalso; revert c102_10; decide) (fun c102_10 => ?_)
  refine j_aload_n cx (pc := 105) dX2_copyFrom_105 1 rfl ?_
  refine j_get cx (pc := 106) 0 0 rfl rfl (C := RX2) (T := TX2) (N := 12) rfl hinX2 8 (by decide) f26 rfl (v := .ref (ad 4)) rfl dX2_copyFrom_106 ?_
  refine j_iload_n cx (pc := 109) dX2_copyFrom_109 0 rfl ?_
  refine j_aald cx (pc := 110) 0 4 4 rfl rfl rfl (by decide) (by decide) (a' := (ad 29)) rfl dX2_copyFrom_110 ?_
  refine j_aload_n cx (pc := 111) dX2_copyFrom_111 2 rfl ?_
  refine j_get cx (pc := 112) 12 0 rfl rfl (C := RX2) (T := TX2) (N := 12) rfl hinX2 8 (by decide) f26 rfl (v := .ref (adb 4)) rfl dX2_copyFrom_112 ?_
  refine j_iload_n cx (pc := 115) dX2_copyFrom_115 0 rfl ?_
  refine j_aald cx (pc := 116) 12 4 4 rfl rfl rfl (by decide) (by decide) (a' := (adb 29)) rfl dX2_copyFrom_116 ?_
  obtain ⟨V16, hV16⟩ : ∃ z, z = wr5_copyFrom V15 1 W := ⟨_, rfl⟩
  refine j_callv cx (pc := 117) 1 (c_X5_copyFrom l D Y (ad 29) (ad 30) (rwU V15 1) (adb 29) (adb 30) (rwU W 1)  ) gX2_copyFrom_X5_copyFrom rfl (by decide +kernel) rfl ⟨Nat.le_of_ble_eq_true rfl, Nat.le_of_ble_eq_true rfl⟩ [11, 23] rfl (by decide) (Bs' := LB Y ad V16 ++ LB Y adb W) (by rw [hV16]; exact P2_rw Y ad V15 (C5_copyFrom (rwU V15 1) (rwU W 1)) adb W (k := 1) (by decide)) (A2_1 A1_rw) 11 0 rfl rfl rfl rfl (Nat.le_of_ble_eq_true rfl) dX2_copyFrom_117 ⟨Nat.zero_le _, Nat.zero_le _⟩ ?_
  refine j_iinc cx (pc := 120) (v := (nI 2)) (lv' := [(2, .int (nI 2)), (0, .ref (ad 0)), (1, .ref (adb 0))]) dX2_copyFrom_120 0 rfl rfl (by decide) rfl ?_
  refine j_goto cx (pc := 123) (tgt := 100) dX2_copyFrom_123 (by decide) ?_
  refine j_iload_n cx (pc := 100) dX2_copyFrom_100 0 rfl ?_
  refine j_iconst cx (pc := 101) (v := (nI 2)) dX2_copyFrom_101 (by decide) ?_
  refine j_icmpN_ge cx (pc := 102) (by decide) (by decide) (tgt := 126) dX2_copyFrom_102 (by decide) (fun c102_11 => ?_) (fun c102_11 => by exfalso; revert c102_11; decide)
  refine j_aload_n cx (pc := 126) dX2_copyFrom_126 1 rfl ?_
  refine j_get cx (pc := 127) 0 0 rfl rfl (C := RX2) (T := TX2) (N := 12) rfl hinX2 9 (by decide) f33 rfl (v := .ref (ad 5)) rfl dX2_copyFrom_127 ?_
  refine j_aload_n cx (pc := 130) dX2_copyFrom_130 2 rfl ?_
  refine j_get cx (pc := 131) 12 0 rfl rfl (C := RX2) (T := TX2) (N := 12) rfl hinX2 9 (by decide) f33 rfl (v := .ref (adb 5)) rfl dX2_copyFrom_131 ?_
  obtain ⟨V17, hV17⟩ : ∃ z, z = wr0_copyFrom V16 W := ⟨_, rfl⟩
  refine j_callv cx (pc := 134) 1 (c_X0_copyFrom l D Y (ad 5) (ad 6) (ad 7) (chU V16) (adb 5) (adb 6) (adb 7) (chU W)  ) gX2_copyFrom_X0_copyFrom rfl (by decide +kernel) rfl ⟨Nat.le_of_ble_eq_true rfl, Nat.le_of_ble_eq_true rfl⟩ [1, 13] rfl (by decide) (Bs' := LB Y ad V17 ++ LB Y adb W) (by rw [hV17]; exact P2_ch Y ad V16 (C0_copyFrom (chU V16) (chU W)) adb W) (A2_1 A1_ch) 1 0 rfl rfl rfl rfl (Nat.le_of_ble_eq_true rfl) dX2_copyFrom_134 ⟨Nat.zero_le _, Nat.zero_le _⟩ ?_
  refine j_aload_n cx (pc := 137) dX2_copyFrom_137 1 rfl ?_
  refine j_get cx (pc := 138) 0 0 rfl rfl (C := RX2) (T := TX2) (N := 12) rfl hinX2 10 (by decide) f40 rfl (v := .ref (ad 8)) rfl dX2_copyFrom_138 ?_
  refine j_aload_n cx (pc := 141) dX2_copyFrom_141 2 rfl ?_
  refine j_get cx (pc := 142) 12 0 rfl rfl (C := RX2) (T := TX2) (N := 12) rfl hinX2 10 (by decide) f40 rfl (v := .ref (adb 8)) rfl dX2_copyFrom_142 ?_
  obtain ⟨V18, hV18⟩ : ∃ z, z = wr4_copyFrom V17 W := ⟨_, rfl⟩
  refine j_callv cx (pc := 145) 1 (c_X4_copyFrom l D Y (ad 8) (ad 9) (ad 10) (ad 11) (ntU V17) (adb 8) (adb 9) (adb 10) (adb 11) (ntU W)  ) gX2_copyFrom_X4_copyFrom rfl (by decide +kernel) rfl ⟨Nat.le_of_ble_eq_true rfl, Nat.le_of_ble_eq_true rfl⟩ [2, 14] rfl (by decide) (Bs' := LB Y ad V18 ++ LB Y adb W) (by rw [hV18]; exact P2_nt Y ad V17 (C4_copyFrom (ntU V17) (ntU W)) adb W) (A2_1 A1_nt) 2 0 rfl rfl rfl rfl (Nat.le_of_ble_eq_true rfl) dX2_copyFrom_145 ⟨Nat.zero_le _, Nat.zero_le _⟩ ?_
  refine j_aload_n cx (pc := 148) dX2_copyFrom_148 2 rfl ?_
  refine j_get cx (pc := 149) 12 0 rfl rfl (C := RX2) (T := TX2) (N := 12) rfl hinX2 11 (by decide) f44 rfl (v := .ref (adb 12)) rfl dX2_copyFrom_149 ?_
  refine j_iconst cx (pc := 152) (v := (nI 0)) dX2_copyFrom_152 (by decide) ?_
  refine j_aload_n cx (pc := 153) dX2_copyFrom_153 1 rfl ?_
  refine j_get cx (pc := 154) 0 0 rfl rfl (C := RX2) (T := TX2) (N := 12) rfl hinX2 11 (by decide) f44 rfl (v := .ref (ad 12)) rfl dX2_copyFrom_154 ?_
  refine j_iconst cx (pc := 157) (v := (nI 0)) dX2_copyFrom_157 (by decide) ?_
  refine j_bipush cx (pc := 158) (v := (nI 8)) dX2_copyFrom_158 (by decide) ?_
  obtain ⟨V19, hV19⟩ : ∃ z, z = cpC V18 W 3 8 := ⟨_, rfl⟩
  refine j_copy cx (pc := 160) (show Cond.methodLink RX2 77 arraycopyName ∈ wsX2_copyFrom from by decide +kernel) (by decide +kernel) (by decide +kernel) (by decide +kernel) 12 5 0 5 0 rfl rfl rfl rfl rfl (by decide) (by decide) (by decide) (by decide) (by decide +kernel) (Bs' := LB Y ad V19 ++ LB Y adb W) (by rw [hV19]; rfl) dX2_copyFrom_160 ?_
  subst hQ; exact j_vret cx hr (by subst hV19; subst hV18; subst hV17; subst hV16; subst hV15; subst hV14; subst hV13; subst hV12; subst hV11; subst hV10; subst hV9; subst hV8; subst hV7; subst hV6; subst hV5; subst hV4; subst hV3; subst hV2; subst hV1; rfl) hA dX2_copyFrom_163
