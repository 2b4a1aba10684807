/-- the text's length and the place where it is read -/
def mtOK (M : Nat → Nat → Int32) (n : Nat) : Prop := vp_in (M 0 2) 61 ∧ vp_in (M 0 3) n
theorem mt_at {M : Nat → Nat → Int32} {n : Nat} (h : mtOK M n) (hn : n ≤ 1000000) : mtOK (up1 M 0 3 (M 0 3 + nI 1)) (n + 1) := ⟨h.1, vp_suc h.2 (by omega)⟩
theorem mt_at0 {M : Nat → Nat → Int32} {n : Nat} (h : mtOK M n) : mtOK (up1 M 0 3 (M 0 3 + nI 0)) n := ⟨h.1, by show vp_in (M 0 3 + nI 0) n; rw [nI_0, Int32.add_zero]; exact h.2⟩
theorem mt_mono {M : Nat → Nat → Int32} {n m : Nat} (h : mtOK M n) (hm : n ≤ m) : mtOK M m := ⟨h.1, vp_mono h.2 hm⟩
theorem mt_not {M : Nat → Nat → Int32} {n : Nat} (h : mtOK M n) : ¬ M 0 3 < 0 := fun q => h.2 (Or.inl q)
def C8_code (M : Nat → Nat → Int32)  : Int32 :=
  if (tN (M 0 2)) ≤ (tN (M 0 3)) then
    (nI 0)
  else
    (M 5 (tN (M 0 3)))
set_option maxHeartbeats 4000000 in
set_option maxRecDepth 100000 in
theorem c_X8_code (l : Launch) (D : va_G) (Y : Nat → ClassId) (mo : Nat → Nat) (M : Nat → Nat → Int32)  (hlen : vp_in (M 0 2) 61) (hat : ¬ M 0 3 < 0) : CtI l yX8_code wsX8_code 0 0 D (tyL Y) ([moB Y mo M]) [.ref (mo 0)] (C8_code M ) ([moB Y mo M]) := by
  refine CtI.intro (own := RX8) (cc := cX8_code) (maxL := 1) rfl (by decide +kernel) rfl (Nat.le_of_ble_eq_true rfl) (fun p e s m args below meth c A Q hA hQ cx hr => ?_)
  have hinX8 : ∀ w ∈ wsX80, w ∈ wsX8_code := by decide +kernel
  have f22 : Cond.fieldLink RX8 22 "FourPhasesModel" "text" "[I" ∈ wsX8_code := by decide +kernel
  have f131 : Cond.fieldLink RX8 131 "FourPhasesModel" "length" "I" ∈ wsX8_code := by decide +kernel
  have f134 : Cond.fieldLink RX8 134 "FourPhasesModel" "at" "I" ∈ wsX8_code := by decide +kernel
  have hl61 : tN (M 0 2) < 61 := inL hlen
  have ha31 : tN (M 0 3) < 2 ^ 31 := tN_lt _
  refine j_aload_n cx (pc := 0) dX8_code_0 0 rfl ?_
  refine j_get cx (pc := 1) 0 0 rfl rfl (C := RX8) (T := TX8) (N := 12) rfl hinX8 8 (by decide) f134 rfl (v := .int (M 0 3)) rfl dX8_code_1 ?_
  refine j_top (show (M 0 3) = (nI (tN (M 0 3))) from inG hat) ?_
  refine j_aload_n cx (pc := 4) dX8_code_4 0 rfl ?_
  refine j_get cx (pc := 5) 0 0 rfl rfl (C := RX8) (T := TX8) (N := 12) rfl hinX8 7 (by decide) f131 rfl (v := .int (M 0 2)) rfl dX8_code_5 ?_
  refine j_top (show (M 0 2) = (nI (tN (M 0 2))) from inN hlen) ?_
  refine j_icmpN_ge cx (pc := 8) (by omega) (by omega) (tgt := 23) dX8_code_8 (by decide) (fun c8_1 => ?_) (fun c8_1 => ?_)
  · skip
    refine j_iconst cx (pc := 23) (v := (nI 0)) dX8_code_23 (by decide) ?_
    subst hQ; exact j_iret cx hr (by simp only [C8_code, if_pos c8_1]) rfl hA dX8_code_24
  · skip
    refine j_aload_n cx (pc := 11) dX8_code_11 0 rfl ?_
    refine j_get cx (pc := 12) 0 0 rfl rfl (C := RX8) (T := TX8) (N := 12) rfl hinX8 6 (by decide) f22 rfl (v := .ref (mo 5)) rfl dX8_code_12 ?_
    refine j_aload_n cx (pc := 15) dX8_code_15 0 rfl ?_
    refine j_get cx (pc := 16) 0 0 rfl rfl (C := RX8) (T := TX8) (N := 12) rfl hinX8 8 (by decide) f134 rfl (v := .int (M 0 3)) rfl dX8_code_16 ?_
    refine j_top (show (M 0 3) = (nI (tN (M 0 3))) from inG hat) ?_
    refine j_iald cx (pc := 19) 0 5 0 rfl rfl rfl (by omega) (by decide) dX8_code_19 ?_
    refine j_goto cx (pc := 20) (tgt := 24) dX8_code_20 (by decide) ?_
    subst hQ; exact j_iret cx hr (by simp only [C8_code, if_neg (Nat.not_le.mpr c8_1)]) rfl hA dX8_code_24
def C8_hex  (code : Int32) : Int32 :=
  if (C8_within code (nI 48) (nI 57)) = 0 then
    if (C8_within code (nI 97) (nI 102)) = 0 then
      (-5)
    else
      ((code - (nI 97)) + (nI 10))
  else
    (code - (nI 48))
set_option maxHeartbeats 4000000 in
set_option maxRecDepth 100000 in
theorem c_X8_hex (l : Launch) (D : va_G) (Y : Nat → ClassId)  (code : Int32)  : CtI l yX8_hex wsX8_hex 1 22 D (tyL Y) ([]) [.int code] (C8_hex  code) ([]) := by
  refine CtI.intro (own := RX8) (cc := cX8_hex) (maxL := 1) rfl (by decide +kernel) rfl (Nat.le_of_ble_eq_true rfl) (fun p e s m args below meth c A Q hA hQ cx hr => ?_)
  refine j_iload_n cx (pc := 0) dX8_hex_0 0 rfl ?_
  refine j_bipush cx (pc := 1) (v := (nI 48)) dX8_hex_1 (by decide) ?_
  refine j_bipush cx (pc := 3) (v := (nI 57)) dX8_hex_3 (by decide) ?_
  refine j_calls cx (pc := 5) 3 (c_X8_within l D Y code (nI 48) (nI 57) ) gX8_hex_X8_within rfl (by decide +kernel) rfl ⟨Nat.le_of_ble_eq_true rfl, Nat.le_of_ble_eq_true rfl⟩ rfl (Nat.le_of_ble_eq_true rfl) dX8_hex_5 ⟨Nat.zero_le _, Nat.zero_le _⟩ ?_
  refine j_if_eq cx (pc := 8) (tgt := 18) dX8_hex_8 (by decide) (fun c8_1 => ?_) (fun c8_1 => ?_)
  · skip
    refine j_iload_n cx (pc := 18) dX8_hex_18 0 rfl ?_
    refine j_bipush cx (pc := 19) (v := (nI 97)) dX8_hex_19 (by decide) ?_
    refine j_bipush cx (pc := 21) (v := (nI 102)) dX8_hex_21 (by decide) ?_
    refine j_calls cx (pc := 23) 3 (c_X8_within l D Y code (nI 97) (nI 102) ) gX8_hex_X8_within rfl (by decide +kernel) rfl ⟨Nat.le_of_ble_eq_true rfl, Nat.le_of_ble_eq_true rfl⟩ rfl (Nat.le_of_ble_eq_true rfl) dX8_hex_23 ⟨Nat.zero_le _, Nat.zero_le _⟩ ?_
    refine j_if_eq cx (pc := 26) (tgt := 39) dX8_hex_26 (by decide) (fun c26_2 => ?_) (fun c26_2 => ?_)
    · skip
      refine j_bipush cx (pc := 39) (v := (-5)) dX8_hex_39 (by decide) ?_
      subst hQ; exact j_iret cx hr (by simp only [C8_hex, if_pos c8_1, if_pos c26_2]) rfl hA dX8_hex_41
    · skip
      refine j_iload_n cx (pc := 29) dX8_hex_29 0 rfl ?_
      refine j_bipush cx (pc := 30) (v := (nI 97)) dX8_hex_30 (by decide) ?_
      refine j_isub cx (pc := 32) dX8_hex_32 ?_
      refine j_bipush cx (pc := 33) (v := (nI 10)) dX8_hex_33 (by decide) ?_
      refine j_iadd cx (pc := 35) dX8_hex_35 ?_
      refine j_goto cx (pc := 36) (tgt := 41) dX8_hex_36 (by decide) ?_
      subst hQ; exact j_iret cx hr (by simp only [C8_hex, if_pos c8_1, if_neg c26_2]) rfl hA dX8_hex_41
  · skip
    refine j_iload_n cx (pc := 11) dX8_hex_11 0 rfl ?_
    refine j_bipush cx (pc := 12) (v := (nI 48)) dX8_hex_12 (by decide) ?_
    refine j_isub cx (pc := 14) dX8_hex_14 ?_
    refine j_goto cx (pc := 15) (tgt := 41) dX8_hex_15 (by decide) ?_
    subst hQ; exact j_iret cx hr (by simp only [C8_hex, if_neg c8_1]) rfl hA dX8_hex_41
def C8_readsNumber (M : Nat → Nat → Int32) (most : Int32) : Int32 × (Nat → Nat → Int32) :=
  let V1 := up1 M 0 6 ((C8_code M ) - (nI 48))
  if (C8_within (V1 0 6) (nI 1) (nI 9)) = 0 then
    ((nI 0), V1)
  else
    let V2 := up1 V1 0 3 ((V1 0 3) + (nI 1))
    if (C8_within ((C8_code V2 ) - (nI 48)) (nI 0) (nI 9)) = 0 then
      ((nI 1), V2)
    else
      if most < (((nI 10) * (V2 0 6)) + ((C8_code V2 ) - (nI 48))) then
        ((nI 1), V2)
      else
        let V3 := up1 V2 0 6 (((nI 10) * (V2 0 6)) + ((C8_code V2 ) - (nI 48)))
        let V4 := up1 V3 0 3 ((V3 0 3) + (nI 1))
        ((nI 1), V4)
set_option maxHeartbeats 4000000 in
set_option maxRecDepth 100000 in
theorem c_X8_readsNumber (l : Launch) (D : va_G) (Y : Nat → ClassId) (mo : Nat → Nat) (M : Nat → Nat → Int32) (most : Int32) (n : Nat) (hm : mtOK M n) (hnn : n ≤ 900100) : CtI l yX8_readsNumber wsX8_readsNumber 1 22 D (tyL Y) ([moB Y mo M]) [.ref (mo 0), .int most] (C8_readsNumber M most).1 ([moB Y mo (C8_readsNumber M most).2]) := by
  refine CtI.intro (own := RX8) (cc := cX8_readsNumber) (maxL := 3) rfl (by decide +kernel) rfl (Nat.le_of_ble_eq_true rfl) (fun p e s m args below meth c A Q hA hQ cx hr => ?_)
  have hinX8 : ∀ w ∈ wsX80, w ∈ wsX8_readsNumber := by decide +kernel
  have f134 : Cond.fieldLink RX8 134 "FourPhasesModel" "at" "I" ∈ wsX8_readsNumber := by decide +kernel
  have f140 : Cond.fieldLink RX8 140 "FourPhasesModel" "second" "I" ∈ wsX8_readsNumber := by decide +kernel
  refine j_aload_n cx (pc := 0) dX8_readsNumber_0 0 rfl ?_
  refine j_aload_n cx (pc := 1) dX8_readsNumber_1 0 rfl ?_
  refine j_calli cx (pc := 2) 0 (c_X8_code l D Y mo M  hm.1 (mt_not hm)) gX8_readsNumber_X8_code rfl (by decide +kernel) rfl ⟨Nat.le_of_ble_eq_true rfl, Nat.le_of_ble_eq_true rfl⟩ [0] rfl (by decide) (Bs' := [moB Y mo M]) rfl rfl 0 0 rfl rfl rfl rfl (Nat.le_of_ble_eq_true rfl) dX8_readsNumber_2 ⟨Nat.zero_le _, Nat.zero_le _⟩ ?_
  refine j_bipush cx (pc := 5) (v := (nI 48)) dX8_readsNumber_5 (by decide) ?_
  refine j_isub cx (pc := 7) dX8_readsNumber_7 ?_
  obtain ⟨V1, hV1⟩ : ∃ z, z = up1 M 0 6 ((C8_code M ) - (nI 48)) := ⟨_, rfl⟩
  have okV1 : mtOK V1 (n + 0) := by rw [hV1]; exact hm
  refine j_put cx (pc := 8) 0 0 rfl rfl (C := RX8) (T := TX8) (N := 12) rfl hinX8 tyX8 tyX8_ok nmX8 11 (by decide) f140 rfl rfl rfl rfl (Nat.le_of_ble_eq_true rfl) (Bs' := [moB Y mo V1]) (by rw [hV1]; rfl) dX8_readsNumber_8 ?_
  refine j_aload_n cx (pc := 11) dX8_readsNumber_11 0 rfl ?_
  refine j_get cx (pc := 12) 0 0 rfl rfl (C := RX8) (T := TX8) (N := 12) rfl hinX8 11 (by decide) f140 rfl (v := .int (V1 0 6)) rfl dX8_readsNumber_12 ?_
  refine j_iconst cx (pc := 15) (v := (nI 1)) dX8_readsNumber_15 (by decide) ?_
  refine j_bipush cx (pc := 16) (v := (nI 9)) dX8_readsNumber_16 (by decide) ?_
  refine j_calls cx (pc := 18) 3 (c_X8_within l D Y (V1 0 6) (nI 1) (nI 9) ) gX8_readsNumber_X8_within rfl (by decide +kernel) rfl ⟨Nat.le_of_ble_eq_true rfl, Nat.le_of_ble_eq_true rfl⟩ rfl (Nat.le_of_ble_eq_true rfl) dX8_readsNumber_18 ⟨Nat.zero_le _, Nat.zero_le _⟩ ?_
  refine j_if_ne cx (pc := 21) (tgt := 26) dX8_readsNumber_21 (by decide) (fun c21_1 => ?_) (fun c21_1 => ?_)
  · skip
    refine j_aload_n cx (pc := 26) dX8_readsNumber_26 0 rfl ?_
    refine j_dup cx (pc := 27) dX8_readsNumber_27 rfl ?_
    refine j_get cx (pc := 28) 0 0 rfl rfl (C := RX8) (T := TX8) (N := 12) rfl hinX8 8 (by decide) f134 rfl (v := .int (V1 0 3)) rfl dX8_readsNumber_28 ?_
    refine j_iconst cx (pc := 31) (v := (nI 1)) dX8_readsNumber_31 (by decide) ?_
    refine j_iadd cx (pc := 32) dX8_readsNumber_32 ?_
    obtain ⟨V2, hV2⟩ : ∃ z, z = up1 V1 0 3 ((V1 0 3) + (nI 1)) := ⟨_, rfl⟩
    have okV2 : mtOK V2 (n + 1) := by rw [hV2]; exact mt_at okV1 (by omega)
    refine j_put cx (pc := 33) 0 0 rfl rfl (C := RX8) (T := TX8) (N := 12) rfl hinX8 tyX8 tyX8_ok nmX8 8 (by decide) f134 rfl rfl rfl rfl (Nat.le_of_ble_eq_true rfl) (Bs' := [moB Y mo V2]) (by rw [hV2]; rfl) dX8_readsNumber_33 ?_
    refine j_aload_n cx (pc := 36) dX8_readsNumber_36 0 rfl ?_
    refine j_calli cx (pc := 37) 0 (c_X8_code l D Y mo V2  okV2.1 (mt_not okV2)) gX8_readsNumber_X8_code rfl (by decide +kernel) rfl ⟨Nat.le_of_ble_eq_true rfl, Nat.le_of_ble_eq_true rfl⟩ [0] rfl (by decide) (Bs' := [moB Y mo V2]) rfl rfl 0 0 rfl rfl rfl rfl (Nat.le_of_ble_eq_true rfl) dX8_readsNumber_37 ⟨Nat.zero_le _, Nat.zero_le _⟩ ?_
    refine j_bipush cx (pc := 40) (v := (nI 48)) dX8_readsNumber_40 (by decide) ?_
    refine j_isub cx (pc := 42) dX8_readsNumber_42 ?_
    refine j_istore_n cx (pc := 43) (lv' := [(2, .int ((C8_code V2 ) - (nI 48))), (0, .ref (mo 0)), (1, .int most)]) dX8_readsNumber_43 (by decide) rfl ?_
    refine j_iload_n cx (pc := 44) dX8_readsNumber_44 0 rfl ?_
    refine j_iconst cx (pc := 45) (v := (nI 0)) dX8_readsNumber_45 (by decide) ?_
    refine j_bipush cx (pc := 46) (v := (nI 9)) dX8_readsNumber_46 (by decide) ?_
    refine j_calls cx (pc := 48) 3 (c_X8_within l D Y ((C8_code V2 ) - (nI 48)) (nI 0) (nI 9) ) gX8_readsNumber_X8_within rfl (by decide +kernel) rfl ⟨Nat.le_of_ble_eq_true rfl, Nat.le_of_ble_eq_true rfl⟩ rfl (Nat.le_of_ble_eq_true rfl) dX8_readsNumber_48 ⟨Nat.zero_le _, Nat.zero_le _⟩ ?_
    refine j_if_eq cx (pc := 51) (tgt := 90) dX8_readsNumber_51 (by decide) (fun c51_2 => ?_) (fun c51_2 => ?_)
    · skip
      refine j_iconst cx (pc := 90) (v := (nI 1)) dX8_readsNumber_90 (by decide) ?_
      subst hQ; exact j_zret cx hr rfl (by subst hV2; subst hV1; simp only [C8_readsNumber, if_neg c21_1, if_pos c51_2]) (by subst hV2; subst hV1; simp only [C8_readsNumber, if_neg c21_1, if_pos c51_2]) hA dX8_readsNumber_91
    · skip
      refine j_bipush cx (pc := 54) (v := (nI 10)) dX8_readsNumber_54 (by decide) ?_
      refine j_aload_n cx (pc := 56) dX8_readsNumber_56 1 rfl ?_
      refine j_get cx (pc := 57) 0 0 rfl rfl (C := RX8) (T := TX8) (N := 12) rfl hinX8 11 (by decide) f140 rfl (v := .int (V2 0 6)) rfl dX8_readsNumber_57 ?_
      refine j_imul cx (pc := 60) dX8_readsNumber_60 ?_
      refine j_iload_n cx (pc := 61) dX8_readsNumber_61 0 rfl ?_
      refine j_iadd cx (pc := 62) dX8_readsNumber_62 ?_
      refine j_iload_n cx (pc := 63) dX8_readsNumber_63 2 rfl ?_
      refine j_icmp_gt cx (pc := 64) (tgt := 90) dX8_readsNumber_64 (by decide) (fun c64_3 => ?_) (fun c64_3 => ?_)
      · skip
        refine j_iconst cx (pc := 90) (v := (nI 1)) dX8_readsNumber_90 (by decide) ?_
        subst hQ; exact j_zret cx hr rfl (by subst hV2; subst hV1; simp only [C8_readsNumber, if_neg c21_1, if_neg c51_2, if_pos c64_3]) (by subst hV2; subst hV1; simp only [C8_readsNumber, if_neg c21_1, if_neg c51_2, if_pos c64_3]) hA dX8_readsNumber_91
      · skip
        refine j_aload_n cx (pc := 67) dX8_readsNumber_67 1 rfl ?_
        refine j_bipush cx (pc := 68) (v := (nI 10)) dX8_readsNumber_68 (by decide) ?_
        refine j_aload_n cx (pc := 70) dX8_readsNumber_70 1 rfl ?_
        refine j_get cx (pc := 71) 0 0 rfl rfl (C := RX8) (T := TX8) (N := 12) rfl hinX8 11 (by decide) f140 rfl (v := .int (V2 0 6)) rfl dX8_readsNumber_71 ?_
        refine j_imul cx (pc := 74) dX8_readsNumber_74 ?_
        refine j_iload_n cx (pc := 75) dX8_readsNumber_75 0 rfl ?_
        refine j_iadd cx (pc := 76) dX8_readsNumber_76 ?_
        obtain ⟨V3, hV3⟩ : ∃ z, z = up1 V2 0 6 (((nI 10) * (V2 0 6)) + ((C8_code V2 ) - (nI 48))) := ⟨_, rfl⟩
        have okV3 : mtOK V3 (n + 1) := by rw [hV3]; exact okV2
        refine j_put cx (pc := 77) 0 0 rfl rfl (C := RX8) (T := TX8) (N := 12) rfl hinX8 tyX8 tyX8_ok nmX8 11 (by decide) f140 rfl rfl rfl rfl (Nat.le_of_ble_eq_true rfl) (Bs' := [moB Y mo V3]) (by rw [hV3]; rfl) dX8_readsNumber_77 ?_
        refine j_aload_n cx (pc := 80) dX8_readsNumber_80 1 rfl ?_
        refine j_dup cx (pc := 81) dX8_readsNumber_81 rfl ?_
        refine j_get cx (pc := 82) 0 0 rfl rfl (C := RX8) (T := TX8) (N := 12) rfl hinX8 8 (by decide) f134 rfl (v := .int (V3 0 3)) rfl dX8_readsNumber_82 ?_
        refine j_iconst cx (pc := 85) (v := (nI 1)) dX8_readsNumber_85 (by decide) ?_
        refine j_iadd cx (pc := 86) dX8_readsNumber_86 ?_
        obtain ⟨V4, hV4⟩ : ∃ z, z = up1 V3 0 3 ((V3 0 3) + (nI 1)) := ⟨_, rfl⟩
        have okV4 : mtOK V4 (n + 2) := by rw [hV4]; exact mt_at okV3 (by omega)
        refine j_put cx (pc := 87) 0 0 rfl rfl (C := RX8) (T := TX8) (N := 12) rfl hinX8 tyX8 tyX8_ok nmX8 8 (by decide) f134 rfl rfl rfl rfl (Nat.le_of_ble_eq_true rfl) (Bs' := [moB Y mo V4]) (by rw [hV4]; rfl) dX8_readsNumber_87 ?_
        refine j_iconst cx (pc := 90) (v := (nI 1)) dX8_readsNumber_90 (by decide) ?_
        subst hQ; exact j_zret cx hr rfl (by subst hV4; subst hV3; subst hV2; subst hV1; simp only [C8_readsNumber, if_neg c21_1, if_neg c51_2, if_neg c64_3]) (by subst hV4; subst hV3; subst hV2; subst hV1; simp only [C8_readsNumber, if_neg c21_1, if_neg c51_2, if_neg c64_3]) hA dX8_readsNumber_91
  · skip
    refine j_iconst cx (pc := 24) (v := (nI 0)) dX8_readsNumber_24 (by decide) ?_
    subst hQ; exact j_zret cx hr rfl (by subst hV1; simp only [C8_readsNumber, if_pos c21_1]) (by subst hV1; simp only [C8_readsNumber, if_pos c21_1]) hA dX8_readsNumber_25
theorem mt_readsNumber {M : Nat → Nat → Int32} {most : Int32} {n : Nat} (h : mtOK M n) (hn : n ≤ 900100) : mtOK (C8_readsNumber M most).2 (n + 2) := by
  unfold C8_readsNumber
  repeat' split
  all_goals try dsimp only
  all_goals repeat' split
  all_goals try dsimp only
  all_goals first | exact mt_mono h (by omega) | exact mt_mono (mt_at (n := n) h (by omega)) (by omega) | exact mt_at (n := n + 1) (mt_at (n := n) h (by omega)) (by omega)
theorem bl_readsNumber (M : Nat → Nat → Int32) (most : Int32) : (C8_readsNumber M most).1 = nI 0 ∨ (C8_readsNumber M most).1 = nI 1 := by
  unfold C8_readsNumber
  repeat' split
  all_goals try dsimp only
  all_goals repeat' split
  all_goals first | exact Or.inl rfl | exact Or.inr rfl
def C8_readsDelay (M : Nat → Nat → Int32)  : Int32 × (Nat → Nat → Int32) :=
  let V1 := up1 M 0 5 ((C8_code M ) - (nI 48))
  if (C8_within (V1 0 5) (nI 0) (nI 6)) = 0 then
    ((nI 0), V1)
  else
    let V2 := up1 V1 0 3 ((V1 0 3) + (nI 1))
    if (C8_code V2 ) = (nI 61) then
      let V3 := up1 V2 0 3 ((V2 0 3) + (nI 1))
      let V4 := (C8_readsNumber V3 (nI 20)).2
      (((C8_readsNumber V3 (nI 20)).1), V4)
    else
      ((nI 0), V2)
set_option maxHeartbeats 4000000 in
set_option maxRecDepth 100000 in
theorem c_X8_readsDelay (l : Launch) (D : va_G) (Y : Nat → ClassId) (mo : Nat → Nat) (M : Nat → Nat → Int32)  (n : Nat) (hm : mtOK M n) (hnn : n ≤ 900050) : CtI l yX8_readsDelay wsX8_readsDelay 2 44 D (tyL Y) ([moB Y mo M]) [.ref (mo 0)] (C8_readsDelay M ).1 ([moB Y mo (C8_readsDelay M ).2]) := by
  refine CtI.intro (own := RX8) (cc := cX8_readsDelay) (maxL := 1) rfl (by decide +kernel) rfl (Nat.le_of_ble_eq_true rfl) (fun p e s m args below meth c A Q hA hQ cx hr => ?_)
  have hinX8 : ∀ w ∈ wsX80, w ∈ wsX8_readsDelay := by decide +kernel
  have f134 : Cond.fieldLink RX8 134 "FourPhasesModel" "at" "I" ∈ wsX8_readsDelay := by decide +kernel
  have f143 : Cond.fieldLink RX8 143 "FourPhasesModel" "first" "I" ∈ wsX8_readsDelay := by decide +kernel
  refine j_aload_n cx (pc := 0) dX8_readsDelay_0 0 rfl ?_
  refine j_aload_n cx (pc := 1) dX8_readsDelay_1 0 rfl ?_
  refine j_calli cx (pc := 2) 0 (c_X8_code l D Y mo M  hm.1 (mt_not hm)) gX8_readsDelay_X8_code rfl (by decide +kernel) rfl ⟨Nat.le_of_ble_eq_true rfl, Nat.le_of_ble_eq_true rfl⟩ [0] rfl (by decide) (Bs' := [moB Y mo M]) rfl rfl 0 0 rfl rfl rfl rfl (Nat.le_of_ble_eq_true rfl) dX8_readsDelay_2 ⟨Nat.zero_le _, Nat.zero_le _⟩ ?_
  refine j_bipush cx (pc := 5) (v := (nI 48)) dX8_readsDelay_5 (by decide) ?_
  refine j_isub cx (pc := 7) dX8_readsDelay_7 ?_
  obtain ⟨V1, hV1⟩ : ∃ z, z = up1 M 0 5 ((C8_code M ) - (nI 48)) := ⟨_, rfl⟩
  have okV1 : mtOK V1 (n + 0) := by rw [hV1]; exact hm
  refine j_put cx (pc := 8) 0 0 rfl rfl (C := RX8) (T := TX8) (N := 12) rfl hinX8 tyX8 tyX8_ok nmX8 10 (by decide) f143 rfl rfl rfl rfl (Nat.le_of_ble_eq_true rfl) (Bs' := [moB Y mo V1]) (by rw [hV1]; rfl) dX8_readsDelay_8 ?_
  refine j_aload_n cx (pc := 11) dX8_readsDelay_11 0 rfl ?_
  refine j_get cx (pc := 12) 0 0 rfl rfl (C := RX8) (T := TX8) (N := 12) rfl hinX8 10 (by decide) f143 rfl (v := .int (V1 0 5)) rfl dX8_readsDelay_12 ?_
  refine j_iconst cx (pc := 15) (v := (nI 0)) dX8_readsDelay_15 (by decide) ?_
  refine j_bipush cx (pc := 16) (v := (nI 6)) dX8_readsDelay_16 (by decide) ?_
  refine j_calls cx (pc := 18) 3 (c_X8_within l D Y (V1 0 5) (nI 0) (nI 6) ) gX8_readsDelay_X8_within rfl (by decide +kernel) rfl ⟨Nat.le_of_ble_eq_true rfl, Nat.le_of_ble_eq_true rfl⟩ rfl (Nat.le_of_ble_eq_true rfl) dX8_readsDelay_18 ⟨Nat.zero_le _, Nat.zero_le _⟩ ?_
  refine j_if_ne cx (pc := 21) (tgt := 26) dX8_readsDelay_21 (by decide) (fun c21_1 => ?_) (fun c21_1 => ?_)
  · skip
    refine j_aload_n cx (pc := 26) dX8_readsDelay_26 0 rfl ?_
    refine j_dup cx (pc := 27) dX8_readsDelay_27 rfl ?_
    refine j_get cx (pc := 28) 0 0 rfl rfl (C := RX8) (T := TX8) (N := 12) rfl hinX8 8 (by decide) f134 rfl (v := .int (V1 0 3)) rfl dX8_readsDelay_28 ?_
    refine j_iconst cx (pc := 31) (v := (nI 1)) dX8_readsDelay_31 (by decide) ?_
    refine j_iadd cx (pc := 32) dX8_readsDelay_32 ?_
    obtain ⟨V2, hV2⟩ : ∃ z, z = up1 V1 0 3 ((V1 0 3) + (nI 1)) := ⟨_, rfl⟩
    have okV2 : mtOK V2 (n + 1) := by rw [hV2]; exact mt_at okV1 (by omega)
    refine j_put cx (pc := 33) 0 0 rfl rfl (C := RX8) (T := TX8) (N := 12) rfl hinX8 tyX8 tyX8_ok nmX8 8 (by decide) f134 rfl rfl rfl rfl (Nat.le_of_ble_eq_true rfl) (Bs' := [moB Y mo V2]) (by rw [hV2]; rfl) dX8_readsDelay_33 ?_
    refine j_aload_n cx (pc := 36) dX8_readsDelay_36 0 rfl ?_
    refine j_calli cx (pc := 37) 0 (c_X8_code l D Y mo V2  okV2.1 (mt_not okV2)) gX8_readsDelay_X8_code rfl (by decide +kernel) rfl ⟨Nat.le_of_ble_eq_true rfl, Nat.le_of_ble_eq_true rfl⟩ [0] rfl (by decide) (Bs' := [moB Y mo V2]) rfl rfl 0 0 rfl rfl rfl rfl (Nat.le_of_ble_eq_true rfl) dX8_readsDelay_37 ⟨Nat.zero_le _, Nat.zero_le _⟩ ?_
    refine j_bipush cx (pc := 40) (v := (nI 61)) dX8_readsDelay_40 (by decide) ?_
    refine j_icmp_eq cx (pc := 42) (tgt := 47) dX8_readsDelay_42 (by decide) (fun c42_2 => ?_) (fun c42_2 => ?_)
    · skip
      refine j_aload_n cx (pc := 47) dX8_readsDelay_47 0 rfl ?_
      refine j_dup cx (pc := 48) dX8_readsDelay_48 rfl ?_
      refine j_get cx (pc := 49) 0 0 rfl rfl (C := RX8) (T := TX8) (N := 12) rfl hinX8 8 (by decide) f134 rfl (v := .int (V2 0 3)) rfl dX8_readsDelay_49 ?_
      refine j_iconst cx (pc := 52) (v := (nI 1)) dX8_readsDelay_52 (by decide) ?_
      refine j_iadd cx (pc := 53) dX8_readsDelay_53 ?_
      obtain ⟨V3, hV3⟩ : ∃ z, z = up1 V2 0 3 ((V2 0 3) + (nI 1)) := ⟨_, rfl⟩
      have okV3 : mtOK V3 (n + 2) := by rw [hV3]; exact mt_at okV2 (by omega)
      refine j_put cx (pc := 54) 0 0 rfl rfl (C := RX8) (T := TX8) (N := 12) rfl hinX8 tyX8 tyX8_ok nmX8 8 (by decide) f134 rfl rfl rfl rfl (Nat.le_of_ble_eq_true rfl) (Bs' := [moB Y mo V3]) (by rw [hV3]; rfl) dX8_readsDelay_54 ?_
      refine j_aload_n cx (pc := 57) dX8_readsDelay_57 0 rfl ?_
      refine j_bipush cx (pc := 58) (v := (nI 20)) dX8_readsDelay_58 (by decide) ?_
      obtain ⟨V4, hV4⟩ : ∃ z, z = (C8_readsNumber V3 (nI 20)).2 := ⟨_, rfl⟩
      have okV4 : mtOK V4 (n + 4) := by rw [hV4]; exact mt_readsNumber okV3 (by omega)
      refine j_calli cx (pc := 60) 1 (c_X8_readsNumber l D Y mo V3 (nI 20) (n + 2) okV3 (by omega)) gX8_readsDelay_X8_readsNumber rfl (by decide +kernel) rfl ⟨Nat.le_of_ble_eq_true rfl, Nat.le_of_ble_eq_true rfl⟩ [0] rfl (by decide) (Bs' := [moB Y mo V4]) (by rw [hV4]; exact P1_mo V3 (C8_readsNumber V3 (nI 20)).2) A1_mo 0 0 rfl rfl rfl rfl (Nat.le_of_ble_eq_true rfl) dX8_readsDelay_60 ⟨Nat.zero_le _, Nat.zero_le _⟩ ?_
      subst hQ; exact j_zret cx hr (nb_of (bl_readsNumber _ _)) (by subst hV4; subst hV3; subst hV2; subst hV1; simp only [C8_readsDelay, if_neg c21_1, if_pos c42_2]) (by subst hV4; subst hV3; subst hV2; subst hV1; simp only [C8_readsDelay, if_neg c21_1, if_pos c42_2]) hA dX8_readsDelay_63
    · skip
      refine j_iconst cx (pc := 45) (v := (nI 0)) dX8_readsDelay_45 (by decide) ?_
      subst hQ; exact j_zret cx hr rfl (by subst hV2; subst hV1; simp only [C8_readsDelay, if_neg c21_1, if_neg c42_2]) (by subst hV2; subst hV1; simp only [C8_readsDelay, if_neg c21_1, if_neg c42_2]) hA dX8_readsDelay_46
  · skip
    refine j_iconst cx (pc := 24) (v := (nI 0)) dX8_readsDelay_24 (by decide) ?_
    subst hQ; exact j_zret cx hr rfl (by subst hV1; simp only [C8_readsDelay, if_pos c21_1]) (by subst hV1; simp only [C8_readsDelay, if_pos c21_1]) hA dX8_readsDelay_25
theorem mt_readsDelay {M : Nat → Nat → Int32} {n : Nat} (h : mtOK M n) (hn : n ≤ 900060) : mtOK (C8_readsDelay M).2 (n + 4) := by
  have h1 : mtOK (up1 M 0 5 (C8_code M - nI 48)) n := h
  have h2 := mt_at h1 (by omega)
  have h3 := mt_at h2 (by omega)
  have h4 := mt_readsNumber (most := nI 20) h3 (by omega)
  rw [C8_readsDelay]
  by_cases c1 : C8_within (up1 M 0 5 (C8_code M - nI 48) 0 5) (nI 0) (nI 6) = 0
  · rw [if_pos c1]; exact mt_mono h (by omega)
  · rw [if_neg c1]; dsimp only
    by_cases c2 : C8_code (up1 (up1 M 0 5 (C8_code M - nI 48)) 0 3 (up1 M 0 5 (C8_code M - nI 48) 0 3 + nI 1)) = nI 61
    · rw [if_pos c2]; exact h4
    · rw [if_neg c2]; exact mt_mono h2 (by omega)
theorem bl_readsDelay (M : Nat → Nat → Int32) : (C8_readsDelay M).1 = nI 0 ∨ (C8_readsDelay M).1 = nI 1 := by
  rw [C8_readsDelay]
  by_cases c1 : C8_within (up1 M 0 5 (C8_code M - nI 48) 0 5) (nI 0) (nI 6) = 0
  · rw [if_pos c1]; exact Or.inl rfl
  · rw [if_neg c1]; dsimp only
    by_cases c2 : C8_code (up1 (up1 M 0 5 (C8_code M - nI 48)) 0 3 (up1 M 0 5 (C8_code M - nI 48) 0 3 + nI 1)) = nI 61
    · rw [if_pos c2]; dsimp only; exact bl_readsNumber _ _
    · rw [if_neg c2]; exact Or.inl rfl
def C8_readsOrder (M : Nat → Nat → Int32)  : Int32 × (Nat → Nat → Int32) :=
  let V1 := up1 M 0 4 (C8_code M )
  if (V1 0 4) = nI 46 then
    let V2 := up1 V1 0 3 ((V1 0 3) + (nI 1))
    let V3 := (C8_readsNumber V2 (nI 99)).2
    (((C8_readsNumber V2 (nI 99)).1), V3)
  else
    if (V1 0 4) = nI 97 then
      let V4 := up1 V1 0 3 ((V1 0 3) + (nI 1))
      let V5 := up1 V4 0 6 (C8_hex (C8_code V4 ))
      if (V5 0 6) = (-5) then
        let V7 := up1 V5 0 3 ((V5 0 3) + (nI 0))
        if (V7 0 6) = (-5) then
          ((nI 0), V7)
        else
          ((nI 1), V7)
      else
        let V6 := up1 V5 0 3 ((V5 0 3) + (nI 1))
        if (V6 0 6) = (-5) then
          ((nI 0), V6)
        else
          ((nI 1), V6)
    else
      if (V1 0 4) = nI 98 then
        let V8 := up1 V1 0 3 ((V1 0 3) + (nI 1))
        let V9 := up1 V8 0 6 (C8_hex (C8_code V8 ))
        if (V9 0 6) = (-5) then
          let V11 := up1 V9 0 3 ((V9 0 3) + (nI 0))
          if (V11 0 6) = (-5) then
            ((nI 0), V11)
          else
            ((nI 1), V11)
        else
          let V10 := up1 V9 0 3 ((V9 0 3) + (nI 1))
          if (V10 0 6) = (-5) then
            ((nI 0), V10)
          else
            ((nI 1), V10)
      else
        if (V1 0 4) = nI 100 then
          let V12 := up1 V1 0 3 ((V1 0 3) + (nI 1))
          let V13 := (C8_readsDelay V12 ).2
          (((C8_readsDelay V12 ).1), V13)
        else
          if (V1 0 4) = nI 107 then
            let V14 := up1 V1 0 3 ((V1 0 3) + (nI 1))
            let V15 := (C8_readsDelay V14 ).2
            (((C8_readsDelay V14 ).1), V15)
          else
            if (V1 0 4) = nI 114 then
              let V16 := up1 V1 0 3 ((V1 0 3) + (nI 1))
              let V17 := (C8_readsDelay V16 ).2
              (((C8_readsDelay V16 ).1), V17)
            else
              ((nI 0), V1)
set_option maxHeartbeats 4000000 in
set_option maxRecDepth 100000 in
theorem c_X8_readsOrder (l : Launch) (D : va_G) (Y : Nat → ClassId) (mo : Nat → Nat) (M : Nat → Nat → Int32)  (n : Nat) (hm : mtOK M n) (hnn : n ≤ 900000) : CtI l yX8_readsOrder wsX8_readsOrder 3 64 D (tyL Y) ([moB Y mo M]) [.ref (mo 0)] (C8_readsOrder M ).1 ([moB Y mo (C8_readsOrder M ).2]) := by
  refine CtI.intro (own := RX8) (cc := cX8_readsOrder) (maxL := 1) rfl (by decide +kernel) rfl (Nat.le_of_ble_eq_true rfl) (fun p e s m args below meth c A Q hA hQ cx hr => ?_)
  have hinX8 : ∀ w ∈ wsX80, w ∈ wsX8_readsOrder := by decide +kernel
  have f134 : Cond.fieldLink RX8 134 "FourPhasesModel" "at" "I" ∈ wsX8_readsOrder := by decide +kernel
  have f140 : Cond.fieldLink RX8 140 "FourPhasesModel" "second" "I" ∈ wsX8_readsOrder := by decide +kernel
  have f149 : Cond.fieldLink RX8 149 "FourPhasesModel" "sign" "I" ∈ wsX8_readsOrder := by decide +kernel
  refine j_aload_n cx (pc := 0) dX8_readsOrder_0 0 rfl ?_
  refine j_aload_n cx (pc := 1) dX8_readsOrder_1 0 rfl ?_
  refine j_calli cx (pc := 2) 0 (c_X8_code l D Y mo M  hm.1 (mt_not hm)) gX8_readsOrder_X8_code rfl (by decide +kernel) rfl ⟨Nat.le_of_ble_eq_true rfl, Nat.le_of_ble_eq_true rfl⟩ [0] rfl (by decide) (Bs' := [moB Y mo M]) rfl rfl 0 0 rfl rfl rfl rfl (Nat.le_of_ble_eq_true rfl) dX8_readsOrder_2 ⟨Nat.zero_le _, Nat.zero_le _⟩ ?_
  obtain ⟨V1, hV1⟩ : ∃ z, z = up1 M 0 4 (C8_code M ) := ⟨_, rfl⟩
  have okV1 : mtOK V1 (n + 0) := by rw [hV1]; exact hm
  refine j_put cx (pc := 5) 0 0 rfl rfl (C := RX8) (T := TX8) (N := 12) rfl hinX8 tyX8 tyX8_ok nmX8 9 (by decide) f149 rfl rfl rfl rfl (Nat.le_of_ble_eq_true rfl) (Bs' := [moB Y mo V1]) (by rw [hV1]; rfl) dX8_readsOrder_5 ?_
  refine j_aload_n cx (pc := 8) dX8_readsOrder_8 0 rfl ?_
  refine j_get cx (pc := 9) 0 0 rfl rfl (C := RX8) (T := TX8) (N := 12) rfl hinX8 9 (by decide) f149 rfl (v := .int (V1 0 4)) rfl dX8_readsOrder_9 ?_
  by_cases s12_1 : (V1 0 4) = nI 46
  · skip
    refine j_lookup cx (pc := 12) dX8_readsOrder_12 (by decide) (off := 119) (by rw [s12_1]; decide) (tgt := 131) (by decide) ?_
    refine j_aload_n cx (pc := 131) dX8_readsOrder_131 0 rfl ?_
    refine j_dup cx (pc := 132) dX8_readsOrder_132 rfl ?_
    refine j_get cx (pc := 133) 0 0 rfl rfl (C := RX8) (T := TX8) (N := 12) rfl hinX8 8 (by decide) f134 rfl (v := .int (V1 0 3)) rfl dX8_readsOrder_133 ?_
    refine j_iconst cx (pc := 136) (v := (nI 1)) dX8_readsOrder_136 (by decide) ?_
    refine j_iadd cx (pc := 137) dX8_readsOrder_137 ?_
    obtain ⟨V2, hV2⟩ : ∃ z, z = up1 V1 0 3 ((V1 0 3) + (nI 1)) := ⟨_, rfl⟩
    have okV2 : mtOK V2 (n + 1) := by rw [hV2]; exact mt_at okV1 (by omega)
    refine j_put cx (pc := 138) 0 0 rfl rfl (C := RX8) (T := TX8) (N := 12) rfl hinX8 tyX8 tyX8_ok nmX8 8 (by decide) f134 rfl rfl rfl rfl (Nat.le_of_ble_eq_true rfl) (Bs' := [moB Y mo V2]) (by rw [hV2]; rfl) dX8_readsOrder_138 ?_
    refine j_aload_n cx (pc := 141) dX8_readsOrder_141 0 rfl ?_
    refine j_bipush cx (pc := 142) (v := (nI 99)) dX8_readsOrder_142 (by decide) ?_
    obtain ⟨V3, hV3⟩ : ∃ z, z = (C8_readsNumber V2 (nI 99)).2 := ⟨_, rfl⟩
    have okV3 : mtOK V3 (n + 3) := by rw [hV3]; exact mt_readsNumber okV2 (by omega)
    refine j_calli cx (pc := 144) 1 (c_X8_readsNumber l D Y mo V2 (nI 99) (n + 1) okV2 (by omega)) gX8_readsOrder_X8_readsNumber rfl (by decide +kernel) rfl ⟨Nat.le_of_ble_eq_true rfl, Nat.le_of_ble_eq_true rfl⟩ [0] rfl (by decide) (Bs' := [moB Y mo V3]) (by rw [hV3]; exact P1_mo V2 (C8_readsNumber V2 (nI 99)).2) A1_mo 0 0 rfl rfl rfl rfl (Nat.le_of_ble_eq_true rfl) dX8_readsOrder_144 ⟨Nat.zero_le _, Nat.zero_le _⟩ ?_
    subst hQ; exact j_zret cx hr (nb_of (bl_readsNumber _ _)) (by subst hV3; subst hV2; subst hV1; simp only [C8_readsOrder, if_pos s12_1]) (by subst hV3; subst hV2; subst hV1; simp only [C8_readsOrder, if_pos s12_1]) hA dX8_readsOrder_147
  by_cases s12_2 : (V1 0 4) = nI 97
  · skip
    refine j_lookup cx (pc := 12) dX8_readsOrder_12 (by decide) (off := 60) (by rw [s12_2]; decide) (tgt := 72) (by decide) ?_
    refine j_aload_n cx (pc := 72) dX8_readsOrder_72 0 rfl ?_
    refine j_dup cx (pc := 73) dX8_readsOrder_73 rfl ?_
    refine j_get cx (pc := 74) 0 0 rfl rfl (C := RX8) (T := TX8) (N := 12) rfl hinX8 8 (by decide) f134 rfl (v := .int (V1 0 3)) rfl dX8_readsOrder_74 ?_
    refine j_iconst cx (pc := 77) (v := (nI 1)) dX8_readsOrder_77 (by decide) ?_
    refine j_iadd cx (pc := 78) dX8_readsOrder_78 ?_
    obtain ⟨V4, hV4⟩ : ∃ z, z = up1 V1 0 3 ((V1 0 3) + (nI 1)) := ⟨_, rfl⟩
    have okV4 : mtOK V4 (n + 1) := by rw [hV4]; exact mt_at okV1 (by omega)
    refine j_put cx (pc := 79) 0 0 rfl rfl (C := RX8) (T := TX8) (N := 12) rfl hinX8 tyX8 tyX8_ok nmX8 8 (by decide) f134 rfl rfl rfl rfl (Nat.le_of_ble_eq_true rfl) (Bs' := [moB Y mo V4]) (by rw [hV4]; rfl) dX8_readsOrder_79 ?_
    refine j_aload_n cx (pc := 82) dX8_readsOrder_82 0 rfl ?_
    refine j_aload_n cx (pc := 83) dX8_readsOrder_83 0 rfl ?_
    refine j_calli cx (pc := 84) 0 (c_X8_code l D Y mo V4  okV4.1 (mt_not okV4)) gX8_readsOrder_X8_code rfl (by decide +kernel) rfl ⟨Nat.le_of_ble_eq_true rfl, Nat.le_of_ble_eq_true rfl⟩ [0] rfl (by decide) (Bs' := [moB Y mo V4]) rfl rfl 0 0 rfl rfl rfl rfl (Nat.le_of_ble_eq_true rfl) dX8_readsOrder_84 ⟨Nat.zero_le _, Nat.zero_le _⟩ ?_
    refine j_calls cx (pc := 87) 1 (c_X8_hex l D Y (C8_code V4 ) ) gX8_readsOrder_X8_hex rfl (by decide +kernel) rfl ⟨Nat.le_of_ble_eq_true rfl, Nat.le_of_ble_eq_true rfl⟩ rfl (Nat.le_of_ble_eq_true rfl) dX8_readsOrder_87 ⟨Nat.zero_le _, Nat.zero_le _⟩ ?_
    obtain ⟨V5, hV5⟩ : ∃ z, z = up1 V4 0 6 (C8_hex (C8_code V4 )) := ⟨_, rfl⟩
    have okV5 : mtOK V5 (n + 1) := by rw [hV5]; exact okV4
    refine j_put cx (pc := 90) 0 0 rfl rfl (C := RX8) (T := TX8) (N := 12) rfl hinX8 tyX8 tyX8_ok nmX8 11 (by decide) f140 rfl rfl rfl rfl (Nat.le_of_ble_eq_true rfl) (Bs' := [moB Y mo V5]) (by rw [hV5]; rfl) dX8_readsOrder_90 ?_
    refine j_aload_n cx (pc := 93) dX8_readsOrder_93 0 rfl ?_
    refine j_dup cx (pc := 94) dX8_readsOrder_94 rfl ?_
    refine j_get cx (pc := 95) 0 0 rfl rfl (C := RX8) (T := TX8) (N := 12) rfl hinX8 8 (by decide) f134 rfl (v := .int (V5 0 3)) rfl dX8_readsOrder_95 ?_
    refine j_aload_n cx (pc := 98) dX8_readsOrder_98 0 rfl ?_
    refine j_get cx (pc := 99) 0 0 rfl rfl (C := RX8) (T := TX8) (N := 12) rfl hinX8 11 (by decide) f140 rfl (v := .int (V5 0 6)) rfl dX8_readsOrder_99 ?_
    refine j_bipush cx (pc := 102) (v := (-5)) dX8_readsOrder_102 (by decide) ?_
    refine j_icmp_ne cx (pc := 104) (tgt := 111) dX8_readsOrder_104 (by decide) (fun c104_3 => ?_) (fun c104_3 => ?_)
    · skip
      refine j_iconst cx (pc := 111) (v := (nI 1)) dX8_readsOrder_111 (by decide) ?_
      refine j_iadd cx (pc := 112) dX8_readsOrder_112 ?_
      obtain ⟨V6, hV6⟩ : ∃ z, z = up1 V5 0 3 ((V5 0 3) + (nI 1)) := ⟨_, rfl⟩
      have okV6 : mtOK V6 (n + 2) := by rw [hV6]; exact mt_at okV5 (by omega)
      refine j_put cx (pc := 113) 0 0 rfl rfl (C := RX8) (T := TX8) (N := 12) rfl hinX8 tyX8 tyX8_ok nmX8 8 (by decide) f134 rfl rfl rfl rfl (Nat.le_of_ble_eq_true rfl) (Bs' := [moB Y mo V6]) (by rw [hV6]; rfl) dX8_readsOrder_113 ?_
      refine j_aload_n cx (pc := 116) dX8_readsOrder_116 0 rfl ?_
      refine j_get cx (pc := 117) 0 0 rfl rfl (C := RX8) (T := TX8) (N := 12) rfl hinX8 11 (by decide) f140 rfl (v := .int (V6 0 6)) rfl dX8_readsOrder_117 ?_
      refine j_bipush cx (pc := 120) (v := (-5)) dX8_readsOrder_120 (by decide) ?_
      refine j_icmp_eq cx (pc := 122) (tgt := 129) dX8_readsOrder_122 (by decide) (fun c122_4 => ?_) (fun c122_4 => ?_)
      · skip
        refine j_iconst cx (pc := 129) (v := (nI 0)) dX8_readsOrder_129 (by decide) ?_
        subst hQ; exact j_zret cx hr rfl (by subst hV6; subst hV5; subst hV4; subst hV1; simp only [C8_readsOrder, if_neg s12_1, if_pos s12_2, if_neg c104_3, if_pos c122_4]) (by subst hV6; subst hV5; subst hV4; subst hV1; simp only [C8_readsOrder, if_neg s12_1, if_pos s12_2, if_neg c104_3, if_pos c122_4]) hA dX8_readsOrder_130
      · skip
        refine j_iconst cx (pc := 125) (v := (nI 1)) dX8_readsOrder_125 (by decide) ?_
        refine j_goto cx (pc := 126) (tgt := 130) dX8_readsOrder_126 (by decide) ?_
        subst hQ; exact j_zret cx hr rfl (by subst hV6; subst hV5; subst hV4; subst hV1; simp only [C8_readsOrder, if_neg s12_1, if_pos s12_2, if_neg c104_3, if_neg c122_4]) (by subst hV6; subst hV5; subst hV4; subst hV1; simp only [C8_readsOrder, if_neg s12_1, if_pos s12_2, if_neg c104_3, if_neg c122_4]) hA dX8_readsOrder_130
    · skip
      refine j_iconst cx (pc := 107) (v := (nI 0)) dX8_readsOrder_107 (by decide) ?_
      refine j_goto cx (pc := 108) (tgt := 112) dX8_readsOrder_108 (by decide) ?_
      refine j_iadd cx (pc := 112) dX8_readsOrder_112 ?_
      obtain ⟨V7, hV7⟩ : ∃ z, z = up1 V5 0 3 ((V5 0 3) + (nI 0)) := ⟨_, rfl⟩
      have okV7 : mtOK V7 (n + 1) := by rw [hV7]; exact mt_at0 okV5
      refine j_put cx (pc := 113) 0 0 rfl rfl (C := RX8) (T := TX8) (N := 12) rfl hinX8 tyX8 tyX8_ok nmX8 8 (by decide) f134 rfl rfl rfl rfl (Nat.le_of_ble_eq_true rfl) (Bs' := [moB Y mo V7]) (by rw [hV7]; rfl) dX8_readsOrder_113 ?_
      refine j_aload_n cx (pc := 116) dX8_readsOrder_116 0 rfl ?_
      refine j_get cx (pc := 117) 0 0 rfl rfl (C := RX8) (T := TX8) (N := 12) rfl hinX8 11 (by decide) f140 rfl (v := .int (V7 0 6)) rfl dX8_readsOrder_117 ?_
      refine j_bipush cx (pc := 120) (v := (-5)) dX8_readsOrder_120 (by decide) ?_
      refine j_icmp_eq cx (pc := 122) (tgt := 129) dX8_readsOrder_122 (by decide) (fun c122_5 => ?_) (fun c122_5 => ?_)
      · skip
        refine j_iconst cx (pc := 129) (v := (nI 0)) dX8_readsOrder_129 (by decide) ?_
        subst hQ; exact j_zret cx hr rfl (by subst hV7; subst hV5; subst hV4; subst hV1; simp only [C8_readsOrder, if_neg s12_1, if_pos s12_2, if_pos c104_3, if_pos c122_5]) (by subst hV7; subst hV5; subst hV4; subst hV1; simp only [C8_readsOrder, if_neg s12_1, if_pos s12_2, if_pos c104_3, if_pos c122_5]) hA dX8_readsOrder_130
      · skip
        refine j_iconst cx (pc := 125) (v := (nI 1)) dX8_readsOrder_125 (by decide) ?_
        refine j_goto cx (pc := 126) (tgt := 130) dX8_readsOrder_126 (by decide) ?_
        subst hQ; exact j_zret cx hr rfl (by subst hV7; subst hV5; subst hV4; subst hV1; simp only [C8_readsOrder, if_neg s12_1, if_pos s12_2, if_pos c104_3, if_neg c122_5]) (by subst hV7; subst hV5; subst hV4; subst hV1; simp only [C8_readsOrder, if_neg s12_1, if_pos s12_2, if_pos c104_3, if_neg c122_5]) hA dX8_readsOrder_130
  by_cases s12_6 : (V1 0 4) = nI 98
  · skip
    refine j_lookup cx (pc := 12) dX8_readsOrder_12 (by decide) (off := 60) (by rw [s12_6]; decide) (tgt := 72) (by decide) ?_
    refine j_aload_n cx (pc := 72) dX8_readsOrder_72 0 rfl ?_
    refine j_dup cx (pc := 73) dX8_readsOrder_73 rfl ?_
    refine j_get cx (pc := 74) 0 0 rfl rfl (C := RX8) (T := TX8) (N := 12) rfl hinX8 8 (by decide) f134 rfl (v := .int (V1 0 3)) rfl dX8_readsOrder_74 ?_
    refine j_iconst cx (pc := 77) (v := (nI 1)) dX8_readsOrder_77 (by decide) ?_
    refine j_iadd cx (pc := 78) dX8_readsOrder_78 ?_
    obtain ⟨V8, hV8⟩ : ∃ z, z = up1 V1 0 3 ((V1 0 3) + (nI 1)) := ⟨_, rfl⟩
    have okV8 : mtOK V8 (n + 1) := by rw [hV8]; exact mt_at okV1 (by omega)
    refine j_put cx (pc := 79) 0 0 rfl rfl (C := RX8) (T := TX8) (N := 12) rfl hinX8 tyX8 tyX8_ok nmX8 8 (by decide) f134 rfl rfl rfl rfl (Nat.le_of_ble_eq_true rfl) (Bs' := [moB Y mo V8]) (by rw [hV8]; rfl) dX8_readsOrder_79 ?_
    refine j_aload_n cx (pc := 82) dX8_readsOrder_82 0 rfl ?_
    refine j_aload_n cx (pc := 83) dX8_readsOrder_83 0 rfl ?_
    refine j_calli cx (pc := 84) 0 (c_X8_code l D Y mo V8  okV8.1 (mt_not okV8)) gX8_readsOrder_X8_code rfl (by decide +kernel) rfl ⟨Nat.le_of_ble_eq_true rfl, Nat.le_of_ble_eq_true rfl⟩ [0] rfl (by decide) (Bs' := [moB Y mo V8]) rfl rfl 0 0 rfl rfl rfl rfl (Nat.le_of_ble_eq_true rfl) dX8_readsOrder_84 ⟨Nat.zero_le _, Nat.zero_le _⟩ ?_
    refine j_calls cx (pc := 87) 1 (c_X8_hex l D Y (C8_code V8 ) ) gX8_readsOrder_X8_hex rfl (by decide +kernel) rfl ⟨Nat.le_of_ble_eq_true rfl, Nat.le_of_ble_eq_true rfl⟩ rfl (Nat.le_of_ble_eq_true rfl) dX8_readsOrder_87 ⟨Nat.zero_le _, Nat.zero_le _⟩ ?_
    obtain ⟨V9, hV9⟩ : ∃ z, z = up1 V8 0 6 (C8_hex (C8_code V8 )) := ⟨_, rfl⟩
    have okV9 : mtOK V9 (n + 1) := by rw [hV9]; exact okV8
    refine j_put cx (pc := 90) 0 0 rfl rfl (C := RX8) (T := TX8) (N := 12) rfl hinX8 tyX8 tyX8_ok nmX8 11 (by decide) f140 rfl rfl rfl rfl (Nat.le_of_ble_eq_true rfl) (Bs' := [moB Y mo V9]) (by rw [hV9]; rfl) dX8_readsOrder_90 ?_
    refine j_aload_n cx (pc := 93) dX8_readsOrder_93 0 rfl ?_
    refine j_dup cx (pc := 94) dX8_readsOrder_94 rfl ?_
    refine j_get cx (pc := 95) 0 0 rfl rfl (C := RX8) (T := TX8) (N := 12) rfl hinX8 8 (by decide) f134 rfl (v := .int (V9 0 3)) rfl dX8_readsOrder_95 ?_
    refine j_aload_n cx (pc := 98) dX8_readsOrder_98 0 rfl ?_
    refine j_get cx (pc := 99) 0 0 rfl rfl (C := RX8) (T := TX8) (N := 12) rfl hinX8 11 (by decide) f140 rfl (v := .int (V9 0 6)) rfl dX8_readsOrder_99 ?_
    refine j_bipush cx (pc := 102) (v := (-5)) dX8_readsOrder_102 (by decide) ?_
    refine j_icmp_ne cx (pc := 104) (tgt := 111) dX8_readsOrder_104 (by decide) (fun c104_7 => ?_) (fun c104_7 => ?_)
    · skip
      refine j_iconst cx (pc := 111) (v := (nI 1)) dX8_readsOrder_111 (by decide) ?_
      refine j_iadd cx (pc := 112) dX8_readsOrder_112 ?_
      obtain ⟨V10, hV10⟩ : ∃ z, z = up1 V9 0 3 ((V9 0 3) + (nI 1)) := ⟨_, rfl⟩
      have okV10 : mtOK V10 (n + 2) := by rw [hV10]; exact mt_at okV9 (by omega)
      refine j_put cx (pc := 113) 0 0 rfl rfl (C := RX8) (T := TX8) (N := 12) rfl hinX8 tyX8 tyX8_ok nmX8 8 (by decide) f134 rfl rfl rfl rfl (Nat.le_of_ble_eq_true rfl) (Bs' := [moB Y mo V10]) (by rw [hV10]; rfl) dX8_readsOrder_113 ?_
      refine j_aload_n cx (pc := 116) dX8_readsOrder_116 0 rfl ?_
      refine j_get cx (pc := 117) 0 0 rfl rfl (C := RX8) (T := TX8) (N := 12) rfl hinX8 11 (by decide) f140 rfl (v := .int (V10 0 6)) rfl dX8_readsOrder_117 ?_
      refine j_bipush cx (pc := 120) (v := (-5)) dX8_readsOrder_120 (by decide) ?_
      refine j_icmp_eq cx (pc := 122) (tgt := 129) dX8_readsOrder_122 (by decide) (fun c122_8 => ?_) (fun c122_8 => ?_)
      · skip
        refine j_iconst cx (pc := 129) (v := (nI 0)) dX8_readsOrder_129 (by decide) ?_
        subst hQ; exact j_zret cx hr rfl (by subst hV10; subst hV9; subst hV8; subst hV1; simp only [C8_readsOrder, if_neg s12_1, if_neg s12_2, if_pos s12_6, if_neg c104_7, if_pos c122_8]) (by subst hV10; subst hV9; subst hV8; subst hV1; simp only [C8_readsOrder, if_neg s12_1, if_neg s12_2, if_pos s12_6, if_neg c104_7, if_pos c122_8]) hA dX8_readsOrder_130
      · skip
        refine j_iconst cx (pc := 125) (v := (nI 1)) dX8_readsOrder_125 (by decide) ?_
        refine j_goto cx (pc := 126) (tgt := 130) dX8_readsOrder_126 (by decide) ?_
        subst hQ; exact j_zret cx hr rfl (by subst hV10; subst hV9; subst hV8; subst hV1; simp only [C8_readsOrder, if_neg s12_1, if_neg s12_2, if_pos s12_6, if_neg c104_7, if_neg c122_8]) (by subst hV10; subst hV9; subst hV8; subst hV1; simp only [C8_readsOrder, if_neg s12_1, if_neg s12_2, if_pos s12_6, if_neg c104_7, if_neg c122_8]) hA dX8_readsOrder_130
    · skip
      refine j_iconst cx (pc := 107) (v := (nI 0)) dX8_readsOrder_107 (by decide) ?_
      refine j_goto cx (pc := 108) (tgt := 112) dX8_readsOrder_108 (by decide) ?_
      refine j_iadd cx (pc := 112) dX8_readsOrder_112 ?_
      obtain ⟨V11, hV11⟩ : ∃ z, z = up1 V9 0 3 ((V9 0 3) + (nI 0)) := ⟨_, rfl⟩
      have okV11 : mtOK V11 (n + 1) := by rw [hV11]; exact mt_at0 okV9
      refine j_put cx (pc := 113) 0 0 rfl rfl (C := RX8) (T := TX8) (N := 12) rfl hinX8 tyX8 tyX8_ok nmX8 8 (by decide) f134 rfl rfl rfl rfl (Nat.le_of_ble_eq_true rfl) (Bs' := [moB Y mo V11]) (by rw [hV11]; rfl) dX8_readsOrder_113 ?_
      refine j_aload_n cx (pc := 116) dX8_readsOrder_116 0 rfl ?_
      refine j_get cx (pc := 117) 0 0 rfl rfl (C := RX8) (T := TX8) (N := 12) rfl hinX8 11 (by decide) f140 rfl (v := .int (V11 0 6)) rfl dX8_readsOrder_117 ?_
      refine j_bipush cx (pc := 120) (v := (-5)) dX8_readsOrder_120 (by decide) ?_
      refine j_icmp_eq cx (pc := 122) (tgt := 129) dX8_readsOrder_122 (by decide) (fun c122_9 => ?_) (fun c122_9 => ?_)
      · skip
        refine j_iconst cx (pc := 129) (v := (nI 0)) dX8_readsOrder_129 (by decide) ?_
        subst hQ; exact j_zret cx hr rfl (by subst hV11; subst hV9; subst hV8; subst hV1; simp only [C8_readsOrder, if_neg s12_1, if_neg s12_2, if_pos s12_6, if_pos c104_7, if_pos c122_9]) (by subst hV11; subst hV9; subst hV8; subst hV1; simp only [C8_readsOrder, if_neg s12_1, if_neg s12_2, if_pos s12_6, if_pos c104_7, if_pos c122_9]) hA dX8_readsOrder_130
      · skip
        refine j_iconst cx (pc := 125) (v := (nI 1)) dX8_readsOrder_125 (by decide) ?_
        refine j_goto cx (pc := 126) (tgt := 130) dX8_readsOrder_126 (by decide) ?_
        subst hQ; exact j_zret cx hr rfl (by subst hV11; subst hV9; subst hV8; subst hV1; simp only [C8_readsOrder, if_neg s12_1, if_neg s12_2, if_pos s12_6, if_pos c104_7, if_neg c122_9]) (by subst hV11; subst hV9; subst hV8; subst hV1; simp only [C8_readsOrder, if_neg s12_1, if_neg s12_2, if_pos s12_6, if_pos c104_7, if_neg c122_9]) hA dX8_readsOrder_130
  by_cases s12_10 : (V1 0 4) = nI 100
  · skip
    refine j_lookup cx (pc := 12) dX8_readsOrder_12 (by decide) (off := 136) (by rw [s12_10]; decide) (tgt := 148) (by decide) ?_
    refine j_aload_n cx (pc := 148) dX8_readsOrder_148 0 rfl ?_
    refine j_dup cx (pc := 149) dX8_readsOrder_149 rfl ?_
    refine j_get cx (pc := 150) 0 0 rfl rfl (C := RX8) (T := TX8) (N := 12) rfl hinX8 8 (by decide) f134 rfl (v := .int (V1 0 3)) rfl dX8_readsOrder_150 ?_
    refine j_iconst cx (pc := 153) (v := (nI 1)) dX8_readsOrder_153 (by decide) ?_
    refine j_iadd cx (pc := 154) dX8_readsOrder_154 ?_
    obtain ⟨V12, hV12⟩ : ∃ z, z = up1 V1 0 3 ((V1 0 3) + (nI 1)) := ⟨_, rfl⟩
    have okV12 : mtOK V12 (n + 1) := by rw [hV12]; exact mt_at okV1 (by omega)
    refine j_put cx (pc := 155) 0 0 rfl rfl (C := RX8) (T := TX8) (N := 12) rfl hinX8 tyX8 tyX8_ok nmX8 8 (by decide) f134 rfl rfl rfl rfl (Nat.le_of_ble_eq_true rfl) (Bs' := [moB Y mo V12]) (by rw [hV12]; rfl) dX8_readsOrder_155 ?_
    refine j_aload_n cx (pc := 158) dX8_readsOrder_158 0 rfl ?_
    obtain ⟨V13, hV13⟩ : ∃ z, z = (C8_readsDelay V12 ).2 := ⟨_, rfl⟩
    have okV13 : mtOK V13 (n + 5) := by rw [hV13]; exact mt_readsDelay okV12 (by omega)
    refine j_calli cx (pc := 159) 0 (c_X8_readsDelay l D Y mo V12  (n + 1) okV12 (by omega)) gX8_readsOrder_X8_readsDelay rfl (by decide +kernel) rfl ⟨Nat.le_of_ble_eq_true rfl, Nat.le_of_ble_eq_true rfl⟩ [0] rfl (by decide) (Bs' := [moB Y mo V13]) (by rw [hV13]; exact P1_mo V12 (C8_readsDelay V12 ).2) A1_mo 0 0 rfl rfl rfl rfl (Nat.le_of_ble_eq_true rfl) dX8_readsOrder_159 ⟨Nat.zero_le _, Nat.zero_le _⟩ ?_
    subst hQ; exact j_zret cx hr (nb_of (bl_readsDelay _)) (by subst hV13; subst hV12; subst hV1; simp only [C8_readsOrder, if_neg s12_1, if_neg s12_2, if_neg s12_6, if_pos s12_10]) (by subst hV13; subst hV12; subst hV1; simp only [C8_readsOrder, if_neg s12_1, if_neg s12_2, if_neg s12_6, if_pos s12_10]) hA dX8_readsOrder_162
  by_cases s12_11 : (V1 0 4) = nI 107
  · skip
    refine j_lookup cx (pc := 12) dX8_readsOrder_12 (by decide) (off := 136) (by rw [s12_11]; decide) (tgt := 148) (by decide) ?_
    refine j_aload_n cx (pc := 148) dX8_readsOrder_148 0 rfl ?_
    refine j_dup cx (pc := 149) dX8_readsOrder_149 rfl ?_
    refine j_get cx (pc := 150) 0 0 rfl rfl (C := RX8) (T := TX8) (N := 12) rfl hinX8 8 (by decide) f134 rfl (v := .int (V1 0 3)) rfl dX8_readsOrder_150 ?_
    refine j_iconst cx (pc := 153) (v := (nI 1)) dX8_readsOrder_153 (by decide) ?_
    refine j_iadd cx (pc := 154) dX8_readsOrder_154 ?_
    obtain ⟨V14, hV14⟩ : ∃ z, z = up1 V1 0 3 ((V1 0 3) + (nI 1)) := ⟨_, rfl⟩
    have okV14 : mtOK V14 (n + 1) := by rw [hV14]; exact mt_at okV1 (by omega)
    refine j_put cx (pc := 155) 0 0 rfl rfl (C := RX8) (T := TX8) (N := 12) rfl hinX8 tyX8 tyX8_ok nmX8 8 (by decide) f134 rfl rfl rfl rfl (Nat.le_of_ble_eq_true rfl) (Bs' := [moB Y mo V14]) (by rw [hV14]; rfl) dX8_readsOrder_155 ?_
    refine j_aload_n cx (pc := 158) dX8_readsOrder_158 0 rfl ?_
    obtain ⟨V15, hV15⟩ : ∃ z, z = (C8_readsDelay V14 ).2 := ⟨_, rfl⟩
    have okV15 : mtOK V15 (n + 5) := by rw [hV15]; exact mt_readsDelay okV14 (by omega)
    refine j_calli cx (pc := 159) 0 (c_X8_readsDelay l D Y mo V14  (n + 1) okV14 (by omega)) gX8_readsOrder_X8_readsDelay rfl (by decide +kernel) rfl ⟨Nat.le_of_ble_eq_true rfl, Nat.le_of_ble_eq_true rfl⟩ [0] rfl (by decide) (Bs' := [moB Y mo V15]) (by rw [hV15]; exact P1_mo V14 (C8_readsDelay V14 ).2) A1_mo 0 0 rfl rfl rfl rfl (Nat.le_of_ble_eq_true rfl) dX8_readsOrder_159 ⟨Nat.zero_le _, Nat.zero_le _⟩ ?_
    subst hQ; exact j_zret cx hr (nb_of (bl_readsDelay _)) (by subst hV15; subst hV14; subst hV1; simp only [C8_readsOrder, if_neg s12_1, if_neg s12_2, if_neg s12_6, if_neg s12_10, if_pos s12_11]) (by subst hV15; subst hV14; subst hV1; simp only [C8_readsOrder, if_neg s12_1, if_neg s12_2, if_neg s12_6, if_neg s12_10, if_pos s12_11]) hA dX8_readsOrder_162
  by_cases s12_12 : (V1 0 4) = nI 114
  · skip
    refine j_lookup cx (pc := 12) dX8_readsOrder_12 (by decide) (off := 136) (by rw [s12_12]; decide) (tgt := 148) (by decide) ?_
    refine j_aload_n cx (pc := 148) dX8_readsOrder_148 0 rfl ?_
    refine j_dup cx (pc := 149) dX8_readsOrder_149 rfl ?_
    refine j_get cx (pc := 150) 0 0 rfl rfl (C := RX8) (T := TX8) (N := 12) rfl hinX8 8 (by decide) f134 rfl (v := .int (V1 0 3)) rfl dX8_readsOrder_150 ?_
    refine j_iconst cx (pc := 153) (v := (nI 1)) dX8_readsOrder_153 (by decide) ?_
    refine j_iadd cx (pc := 154) dX8_readsOrder_154 ?_
    obtain ⟨V16, hV16⟩ : ∃ z, z = up1 V1 0 3 ((V1 0 3) + (nI 1)) := ⟨_, rfl⟩
    have okV16 : mtOK V16 (n + 1) := by rw [hV16]; exact mt_at okV1 (by omega)
    refine j_put cx (pc := 155) 0 0 rfl rfl (C := RX8) (T := TX8) (N := 12) rfl hinX8 tyX8 tyX8_ok nmX8 8 (by decide) f134 rfl rfl rfl rfl (Nat.le_of_ble_eq_true rfl) (Bs' := [moB Y mo V16]) (by rw [hV16]; rfl) dX8_readsOrder_155 ?_
    refine j_aload_n cx (pc := 158) dX8_readsOrder_158 0 rfl ?_
    obtain ⟨V17, hV17⟩ : ∃ z, z = (C8_readsDelay V16 ).2 := ⟨_, rfl⟩
    have okV17 : mtOK V17 (n + 5) := by rw [hV17]; exact mt_readsDelay okV16 (by omega)
    refine j_calli cx (pc := 159) 0 (c_X8_readsDelay l D Y mo V16  (n + 1) okV16 (by omega)) gX8_readsOrder_X8_readsDelay rfl (by decide +kernel) rfl ⟨Nat.le_of_ble_eq_true rfl, Nat.le_of_ble_eq_true rfl⟩ [0] rfl (by decide) (Bs' := [moB Y mo V17]) (by rw [hV17]; exact P1_mo V16 (C8_readsDelay V16 ).2) A1_mo 0 0 rfl rfl rfl rfl (Nat.le_of_ble_eq_true rfl) dX8_readsOrder_159 ⟨Nat.zero_le _, Nat.zero_le _⟩ ?_
    subst hQ; exact j_zret cx hr (nb_of (bl_readsDelay _)) (by subst hV17; subst hV16; subst hV1; simp only [C8_readsOrder, if_neg s12_1, if_neg s12_2, if_neg s12_6, if_neg s12_10, if_neg s12_11, if_pos s12_12]) (by subst hV17; subst hV16; subst hV1; simp only [C8_readsOrder, if_neg s12_1, if_neg s12_2, if_neg s12_6, if_neg s12_10, if_neg s12_11, if_pos s12_12]) hA dX8_readsOrder_162
  refine j_lookup cx (pc := 12) dX8_readsOrder_12 (by decide) (off := 151) (sw_def _ _ _ (by intro q hq; simp only [List.mem_cons, List.not_mem_nil, or_false] at hq; rcases hq with rfl | rfl | rfl | rfl | rfl | rfl; exact ne_toInt (by decide) s12_1; exact ne_toInt (by decide) s12_2; exact ne_toInt (by decide) s12_6; exact ne_toInt (by decide) s12_10; exact ne_toInt (by decide) s12_11; exact ne_toInt (by decide) s12_12)) (tgt := 163) (by decide) ?_
  refine j_iconst cx (pc := 163) (v := (nI 0)) dX8_readsOrder_163 (by decide) ?_
  subst hQ; exact j_zret cx hr rfl (by subst hV1; simp only [C8_readsOrder, if_neg s12_1, if_neg s12_2, if_neg s12_6, if_neg s12_10, if_neg s12_11, if_neg s12_12]) (by subst hV1; simp only [C8_readsOrder, if_neg s12_1, if_neg s12_2, if_neg s12_6, if_neg s12_10, if_neg s12_11, if_neg s12_12]) hA dX8_readsOrder_164
