theorem mm_ok {M : Nat → Nat → Int32} {k n : Nat} (h0 : vp_in (M 1 11) n) (h1 : vp_in (M 1 12) n) (hk : k < 2) : vp_in (M 1 (11 + k)) n := by
  match k, hk with
  | 0, _ => exact h0
  | 1, _ => exact h1
def C8_adds (M : Nat → Nat → Int32) (sender : Int32) (word : Int32) : Int32 × (Nat → Nat → Int32) :=
  if (C8_isSender sender) = 0 then
    ((-1), M)
  else
    if (C8_within word (nI 0) (nI 15)) = 0 then
      ((-2), M)
    else
      let sn := tN sender
      if (tN (M 1 (11 + sn))) = 20 then
        ((-3), M)
      else
        let V1 := up1 M 1 ((109 + (20 * sn)) + (tN (M 1 (11 + sn)))) word
        let V2 := up1 V1 1 (11 + sn) ((V1 1 (11 + sn)) + (nI 1))
        let V3 := (C8_letGo V2 )
        ((V3 1 (11 + sn)), V3)
set_option maxHeartbeats 4000000 in
set_option maxRecDepth 100000 in
theorem c_X8_adds (l : Launch) (D : va_G) (Y : Nat → ClassId) (mo : Nat → Nat) (M : Nat → Nat → Int32) (sender : Int32) (word : Int32) (hm0 : vp_in (M 1 11) 21) (hm1 : vp_in (M 1 12) 21) (hpd : vp_in (M 1 9) 20) (hn : vp_in (M 1 10) 99) : CtI l yX8_adds wsX8_adds 3 74 D (tyL Y) ([moB Y mo M]) [.ref (mo 0), .int sender, .int word] (C8_adds M sender word).1 ([moB Y mo (C8_adds M sender word).2]) := by
  refine CtI.intro (own := RX8) (cc := cX8_adds) (maxL := 3) rfl (by decide +kernel) rfl (Nat.le_of_ble_eq_true rfl) (fun p e s m args below meth c A Q hA hQ cx hr => ?_)
  have hinX8 : ∀ w ∈ wsX80, w ∈ wsX8_adds := by decide +kernel
  have f7 : Cond.fieldLink RX8 7 "FourPhasesModel" "state" "[I" ∈ wsX8_adds := by decide +kernel
  refine j_iload_n cx (pc := 0) dX8_adds_0 1 rfl ?_
  refine j_calls cx (pc := 1) 1 (c_X8_isSender l D Y sender ) gX8_adds_X8_isSender rfl (by decide +kernel) rfl ⟨Nat.le_of_ble_eq_true rfl, Nat.le_of_ble_eq_true rfl⟩ rfl (Nat.le_of_ble_eq_true rfl) dX8_adds_1 ⟨Nat.zero_le _, Nat.zero_le _⟩ ?_
  refine j_if_ne cx (pc := 4) (tgt := 9) dX8_adds_4 (by decide) (fun c4_1 => ?_) (fun c4_1 => ?_)
  · skip
    refine j_iload_n cx (pc := 9) dX8_adds_9 2 rfl ?_
    refine j_iconst cx (pc := 10) (v := (nI 0)) dX8_adds_10 (by decide) ?_
    refine j_bipush cx (pc := 11) (v := (nI 15)) dX8_adds_11 (by decide) ?_
    refine j_calls cx (pc := 13) 3 (c_X8_within l D Y word (nI 0) (nI 15) ) gX8_adds_X8_within rfl (by decide +kernel) rfl ⟨Nat.le_of_ble_eq_true rfl, Nat.le_of_ble_eq_true rfl⟩ rfl (Nat.le_of_ble_eq_true rfl) dX8_adds_13 ⟨Nat.zero_le _, Nat.zero_le _⟩ ?_
    refine j_if_ne cx (pc := 16) (tgt := 22) dX8_adds_16 (by decide) (fun c16_2 => ?_) (fun c16_2 => ?_)
    · skip
      obtain ⟨sn, hsn⟩ : ∃ z : Nat, z = tN sender := ⟨_, rfl⟩
      have sn0 := wi_ok (a := 0) (b := 1) (by decide) (by first | decide | omega) c4_1
      have sn1 : sender = nI sn := by rw [hsn]; exact sn0.1
      have sn2 : 0 ≤ sn ∧ sn ≤ 1 := by rw [hsn]; exact ⟨sn0.2.1, sn0.2.2⟩
      have sn3 : vp_in (M 1 (11 + sn)) 21 := mm_ok hm0 hm1 (by omega)
      have sn4 : tN (M 1 (11 + sn)) < 21 := inL sn3
      refine j_aload_n cx (pc := 22) dX8_adds_22 0 rfl ?_
      refine j_get cx (pc := 23) 0 0 rfl rfl (C := RX8) (T := TX8) (N := 12) rfl hinX8 0 (by decide) f7 rfl (v := .ref (mo 1)) rfl dX8_adds_23 ?_
      refine j_bipush cx (pc := 26) (v := (nI 11)) dX8_adds_26 (by decide) ?_
      refine j_iload_n cx (pc := 28) dX8_adds_28 1 rfl ?_
      refine j_top (show sender = (nI sn) from sn1) ?_
      refine j_iaddN cx (pc := 29) dX8_adds_29 ?_
      refine j_iald cx (pc := 30) 0 1 0 rfl rfl rfl (by omega) (by decide) dX8_adds_30 ?_
      refine j_top (show (M 1 (11 + sn)) = (nI (tN (M 1 (11 + sn)))) from inN sn3) ?_
      refine j_bipush cx (pc := 31) (v := (nI 20)) dX8_adds_31 (by decide) ?_
      refine j_icmpN_ne cx (pc := 33) (by omega) (by decide) (tgt := 39) dX8_adds_33 (by decide) (fun c33_3 => ?_) (fun c33_3 => ?_)
      · skip
        refine j_aload_n cx (pc := 39) dX8_adds_39 0 rfl ?_
        refine j_get cx (pc := 40) 0 0 rfl rfl (C := RX8) (T := TX8) (N := 12) rfl hinX8 0 (by decide) f7 rfl (v := .ref (mo 1)) rfl dX8_adds_40 ?_
        refine j_bipush cx (pc := 43) (v := (nI 109)) dX8_adds_43 (by decide) ?_
        refine j_bipush cx (pc := 45) (v := (nI 20)) dX8_adds_45 (by decide) ?_
        refine j_iload_n cx (pc := 47) dX8_adds_47 1 rfl ?_
        refine j_top (show sender = (nI sn) from sn1) ?_
        refine j_imulN cx (pc := 48) dX8_adds_48 ?_
        refine j_iaddN cx (pc := 49) dX8_adds_49 ?_
        refine j_aload_n cx (pc := 50) dX8_adds_50 0 rfl ?_
        refine j_get cx (pc := 51) 0 0 rfl rfl (C := RX8) (T := TX8) (N := 12) rfl hinX8 0 (by decide) f7 rfl (v := .ref (mo 1)) rfl dX8_adds_51 ?_
        refine j_bipush cx (pc := 54) (v := (nI 11)) dX8_adds_54 (by decide) ?_
        refine j_iload_n cx (pc := 56) dX8_adds_56 1 rfl ?_
        refine j_top (show sender = (nI sn) from sn1) ?_
        refine j_iaddN cx (pc := 57) dX8_adds_57 ?_
        refine j_iald cx (pc := 58) 0 1 0 rfl rfl rfl (by omega) (by decide) dX8_adds_58 ?_
        refine j_top (show (M 1 (11 + sn)) = (nI (tN (M 1 (11 + sn)))) from inN sn3) ?_
        refine j_iaddN cx (pc := 59) dX8_adds_59 ?_
        refine j_iload_n cx (pc := 60) dX8_adds_60 2 rfl ?_
        obtain ⟨V1, hV1⟩ : ∃ z, z = up1 M 1 ((109 + (20 * sn)) + (tN (M 1 (11 + sn)))) word := ⟨_, rfl⟩
        have cnV1 : vp_in (V1 1 10) 99 := by rw [hV1]; exact cn_up (by omega) hn
        refine j_iast cx (pc := 61) 0 1 0 rfl rfl rfl (by omega) (by decide) (Bs' := [moB Y mo V1]) (by rw [hV1]; rfl) dX8_adds_61 ?_
        refine j_aload_n cx (pc := 62) dX8_adds_62 0 rfl ?_
        refine j_get cx (pc := 63) 0 0 rfl rfl (C := RX8) (T := TX8) (N := 12) rfl hinX8 0 (by decide) f7 rfl (v := .ref (mo 1)) rfl dX8_adds_63 ?_
        refine j_bipush cx (pc := 66) (v := (nI 11)) dX8_adds_66 (by decide) ?_
        refine j_iload_n cx (pc := 68) dX8_adds_68 1 rfl ?_
        refine j_top (show sender = (nI sn) from sn1) ?_
        refine j_iaddN cx (pc := 69) dX8_adds_69 ?_
        refine j_dup2 cx (pc := 70) dX8_adds_70 rfl rfl ?_
        refine j_iald cx (pc := 71) 0 1 0 rfl rfl rfl (by omega) (by decide) dX8_adds_71 ?_
        refine j_iconst cx (pc := 72) (v := (nI 1)) dX8_adds_72 (by decide) ?_
        refine j_iadd cx (pc := 73) dX8_adds_73 ?_
        obtain ⟨V2, hV2⟩ : ∃ z, z = up1 V1 1 (11 + sn) ((V1 1 (11 + sn)) + (nI 1)) := ⟨_, rfl⟩
        have cnV2 : vp_in (V2 1 10) 99 := by rw [hV2]; exact cn_up (by omega) cnV1
        refine j_iast cx (pc := 74) 0 1 0 rfl rfl rfl (by omega) (by decide) (Bs' := [moB Y mo V2]) (by rw [hV2]; rfl) dX8_adds_74 ?_
        refine j_aload_n cx (pc := 75) dX8_adds_75 0 rfl ?_
        obtain ⟨V3, hV3⟩ : ∃ z, z = (C8_letGo V2 ) := ⟨_, rfl⟩
        refine j_callv cx (pc := 76) 0 (c_X8_letGo l D Y mo V2  (by rw [hV2]; (repeat first | rw [up1_in (by omega)] | rw [se_in (by omega)]); rw [hV1]; (repeat first | rw [up1_in (by omega)] | rw [se_in (by omega)]); exact hpd) (vp_mono cnV2 (by decide))) gX8_adds_X8_letGo rfl (by decide +kernel) rfl ⟨Nat.le_of_ble_eq_true rfl, Nat.le_of_ble_eq_true rfl⟩ [0] rfl (by decide) (Bs' := [moB Y mo V3]) (by rw [hV3]; exact P1_mo V2 (C8_letGo V2 )) A1_mo 0 0 rfl rfl rfl rfl (Nat.le_of_ble_eq_true rfl) dX8_adds_76 ⟨Nat.zero_le _, Nat.zero_le _⟩ ?_
        refine j_aload_n cx (pc := 79) dX8_adds_79 0 rfl ?_
        refine j_get cx (pc := 80) 0 0 rfl rfl (C := RX8) (T := TX8) (N := 12) rfl hinX8 0 (by decide) f7 rfl (v := .ref (mo 1)) rfl dX8_adds_80 ?_
        refine j_bipush cx (pc := 83) (v := (nI 11)) dX8_adds_83 (by decide) ?_
        refine j_iload_n cx (pc := 85) dX8_adds_85 1 rfl ?_
        refine j_top (show sender = (nI sn) from sn1) ?_
        refine j_iaddN cx (pc := 86) dX8_adds_86 ?_
        refine j_iald cx (pc := 87) 0 1 0 rfl rfl rfl (by omega) (by decide) dX8_adds_87 ?_
        subst hQ; exact j_iret cx hr (by subst hV3; subst hV2; subst hV1; subst hsn; simp only [C8_adds, if_neg c4_1, if_neg c16_2, if_neg c33_3]) (by subst hV3; subst hV2; subst hV1; subst hsn; simp only [C8_adds, if_neg c4_1, if_neg c16_2, if_neg c33_3]) hA dX8_adds_88
      · skip
        refine j_bipush cx (pc := 36) (v := (-3)) dX8_adds_36 (by decide) ?_
        subst hQ; exact j_iret cx hr (by subst hsn; simp only [C8_adds, if_neg c4_1, if_neg c16_2, if_pos c33_3]) (by subst hsn; simp only [C8_adds, if_neg c4_1, if_neg c16_2, if_pos c33_3]) hA dX8_adds_38
    · skip
      refine j_bipush cx (pc := 19) (v := (-2)) dX8_adds_19 (by decide) ?_
      subst hQ; exact j_iret cx hr (by simp only [C8_adds, if_neg c4_1, if_pos c16_2]) (by simp only [C8_adds, if_neg c4_1, if_pos c16_2]) hA dX8_adds_21
  · skip
    refine j_iconst cx (pc := 7) (v := (-1)) dX8_adds_7 (by decide) ?_
    subst hQ; exact j_iret cx hr (by simp only [C8_adds, if_pos c4_1]) (by simp only [C8_adds, if_pos c4_1]) hA dX8_adds_8
def C8_runs (M : Nat → Nat → Int32) (ticks : Int32) : Int32 × (Nat → Nat → Int32) :=
  if (C8_within ticks (nI 1) (nI 1000)) = 0 then
    ((-2), M)
  else
    if ((M 1 4) + ticks) ≤ (nI 1000000) then
      let V1 := (C8_goTo M ((M 1 4) + ticks))
      (((V1 1 5) - (M 1 5)), V1)
    else
      ((-3), M)
set_option maxHeartbeats 4000000 in
set_option maxRecDepth 100000 in
theorem c_X8_runs (l : Launch) (D : va_G) (Y : Nat → ClassId) (mo : Nat → Nat) (M : Nat → Nat → Int32) (ticks : Int32) (hok : ¬ C8_within ticks (nI 1) (nI 1000) = 0 → (M 1 4) + ticks ≤ nI 1000000 → gtoOK ((M 1 4) + ticks) 5000 M) : CtI l yX8_runs wsX8_runs 6 144 D (tyL Y) ([moB Y mo M]) [.ref (mo 0), .int ticks] (C8_runs M ticks).1 ([moB Y mo (C8_runs M ticks).2]) := by
  refine CtI.intro (own := RX8) (cc := cX8_runs) (maxL := 3) rfl (by decide +kernel) rfl (Nat.le_of_ble_eq_true rfl) (fun p e s m args below meth c A Q hA hQ cx hr => ?_)
  have hinX8 : ∀ w ∈ wsX80, w ∈ wsX8_runs := by decide +kernel
  have f7 : Cond.fieldLink RX8 7 "FourPhasesModel" "state" "[I" ∈ wsX8_runs := by decide +kernel
  refine j_iload_n cx (pc := 0) dX8_runs_0 1 rfl ?_
  refine j_iconst cx (pc := 1) (v := (nI 1)) dX8_runs_1 (by decide) ?_
  refine j_sipush cx (pc := 2) (v := (nI 1000)) dX8_runs_2 (by decide) ?_
  refine j_calls cx (pc := 5) 3 (c_X8_within l D Y ticks (nI 1) (nI 1000) ) gX8_runs_X8_within rfl (by decide +kernel) rfl ⟨Nat.le_of_ble_eq_true rfl, Nat.le_of_ble_eq_true rfl⟩ rfl (Nat.le_of_ble_eq_true rfl) dX8_runs_5 ⟨Nat.zero_le _, Nat.zero_le _⟩ ?_
  refine j_if_ne cx (pc := 8) (tgt := 14) dX8_runs_8 (by decide) (fun c8_1 => ?_) (fun c8_1 => ?_)
  · skip
    refine j_aload_n cx (pc := 14) dX8_runs_14 0 rfl ?_
    refine j_get cx (pc := 15) 0 0 rfl rfl (C := RX8) (T := TX8) (N := 12) rfl hinX8 0 (by decide) f7 rfl (v := .ref (mo 1)) rfl dX8_runs_15 ?_
    refine j_iconst cx (pc := 18) (v := (nI 4)) dX8_runs_18 (by decide) ?_
    refine j_iald cx (pc := 19) 0 1 0 rfl rfl rfl (by decide) (by decide) dX8_runs_19 ?_
    refine j_iload_n cx (pc := 20) dX8_runs_20 1 rfl ?_
    refine j_iadd cx (pc := 21) dX8_runs_21 ?_
    refine j_ldc cx (pc := 22) (v := (nI 1000000)) (show Cond.constant RX8 99 (1000000) ∈ wsX8_runs from by decide +kernel) dX8_runs_22 ?_
    refine j_icmp_le cx (pc := 24) (tgt := 30) dX8_runs_24 (by decide) (fun c24_2 => ?_) (fun c24_2 => ?_)
    · skip
      refine j_aload_n cx (pc := 30) dX8_runs_30 0 rfl ?_
      refine j_get cx (pc := 31) 0 0 rfl rfl (C := RX8) (T := TX8) (N := 12) rfl hinX8 0 (by decide) f7 rfl (v := .ref (mo 1)) rfl dX8_runs_31 ?_
      refine j_iconst cx (pc := 34) (v := (nI 5)) dX8_runs_34 (by decide) ?_
      refine j_iald cx (pc := 35) 0 1 0 rfl rfl rfl (by decide) (by decide) dX8_runs_35 ?_
      refine j_istore_n cx (pc := 36) (lv' := [(2, .int (M 1 5)), (0, .ref (mo 0)), (1, .int ticks)]) dX8_runs_36 (by decide) rfl ?_
      refine j_aload_n cx (pc := 37) dX8_runs_37 1 rfl ?_
      refine j_aload_n cx (pc := 38) dX8_runs_38 1 rfl ?_
      refine j_get cx (pc := 39) 0 0 rfl rfl (C := RX8) (T := TX8) (N := 12) rfl hinX8 0 (by decide) f7 rfl (v := .ref (mo 1)) rfl dX8_runs_39 ?_
      refine j_iconst cx (pc := 42) (v := (nI 4)) dX8_runs_42 (by decide) ?_
      refine j_iald cx (pc := 43) 0 1 0 rfl rfl rfl (by decide) (by decide) dX8_runs_43 ?_
      refine j_iload_n cx (pc := 44) dX8_runs_44 2 rfl ?_
      refine j_iadd cx (pc := 45) dX8_runs_45 ?_
      obtain ⟨V1, hV1⟩ : ∃ z, z = (C8_goTo M ((M 1 4) + ticks)) := ⟨_, rfl⟩
      refine j_callv cx (pc := 46) 1 (c_X8_goTo l D Y mo M ((M 1 4) + ticks) (hok c8_1 c24_2)) gX8_runs_X8_goTo rfl (by decide +kernel) rfl ⟨Nat.le_of_ble_eq_true rfl, Nat.le_of_ble_eq_true rfl⟩ [0] rfl (by decide) (Bs' := [moB Y mo V1]) (by rw [hV1]; exact P1_mo M (C8_goTo M ((M 1 4) + ticks))) A1_mo 0 0 rfl rfl rfl rfl (Nat.le_of_ble_eq_true rfl) dX8_runs_46 ⟨Nat.zero_le _, Nat.zero_le _⟩ ?_
      refine j_aload_n cx (pc := 49) dX8_runs_49 1 rfl ?_
      refine j_get cx (pc := 50) 0 0 rfl rfl (C := RX8) (T := TX8) (N := 12) rfl hinX8 0 (by decide) f7 rfl (v := .ref (mo 1)) rfl dX8_runs_50 ?_
      refine j_iconst cx (pc := 53) (v := (nI 5)) dX8_runs_53 (by decide) ?_
      refine j_iald cx (pc := 54) 0 1 0 rfl rfl rfl (by decide) (by decide) dX8_runs_54 ?_
      refine j_iload_n cx (pc := 55) dX8_runs_55 0 rfl ?_
      refine j_isub cx (pc := 56) dX8_runs_56 ?_
      subst hQ; exact j_iret cx hr (by subst hV1; simp only [C8_runs, if_neg c8_1, if_pos c24_2]) (by subst hV1; simp only [C8_runs, if_neg c8_1, if_pos c24_2]) hA dX8_runs_57
    · skip
      refine j_bipush cx (pc := 27) (v := (-3)) dX8_runs_27 (by decide) ?_
      subst hQ; exact j_iret cx hr (by simp only [C8_runs, if_neg c8_1, if_neg c24_2]) (by simp only [C8_runs, if_neg c8_1, if_neg c24_2]) hA dX8_runs_29
  · skip
    refine j_bipush cx (pc := 11) (v := (-2)) dX8_runs_11 (by decide) ?_
    subst hQ; exact j_iret cx hr (by simp only [C8_runs, if_pos c8_1]) (by simp only [C8_runs, if_pos c8_1]) hA dX8_runs_13
def C8_setsDelay (M : Nat → Nat → Int32) (link : Int32) (wire : Int32) (delay : Int32) : Int32 × (Nat → Nat → Int32) :=
  if (C8_isLink M link) = 0 then
    ((-1), M)
  else
    if (C8_isWire wire) = 0 then
      ((-1), M)
    else
      if (C8_within delay (nI 1) (nI 20)) = 0 then
        ((-2), M)
      else
        let lk := tN link
        let wr := tN wire
        let V1 := up1 M 1 ((13 + (3 * lk)) + wr) delay
        if (M 1 ((13 + (3 * lk)) + wr)) = delay then
          ((-5), V1)
        else
          ((M 1 ((13 + (3 * lk)) + wr)), V1)
set_option maxHeartbeats 4000000 in
set_option maxRecDepth 100000 in
theorem c_X8_setsDelay (l : Launch) (D : va_G) (Y : Nat → ClassId) (mo : Nat → Nat) (M : Nat → Nat → Int32) (link : Int32) (wire : Int32) (delay : Int32) (hst : vp_in (M 1 3) 7) : CtI l yX8_setsDelay wsX8_setsDelay 2 43 D (tyL Y) ([moB Y mo M]) [.ref (mo 0), .int link, .int wire, .int delay] (C8_setsDelay M link wire delay).1 ([moB Y mo (C8_setsDelay M link wire delay).2]) := by
  refine CtI.intro (own := RX8) (cc := cX8_setsDelay) (maxL := 6) rfl (by decide +kernel) rfl (Nat.le_of_ble_eq_true rfl) (fun p e s m args below meth c A Q hA hQ cx hr => ?_)
  have hinX8 : ∀ w ∈ wsX80, w ∈ wsX8_setsDelay := by decide +kernel
  have f7 : Cond.fieldLink RX8 7 "FourPhasesModel" "state" "[I" ∈ wsX8_setsDelay := by decide +kernel
  refine j_aload_n cx (pc := 0) dX8_setsDelay_0 0 rfl ?_
  refine j_iload_n cx (pc := 1) dX8_setsDelay_1 1 rfl ?_
  refine j_calli cx (pc := 2) 1 (c_X8_isLink l D Y mo M link ) gX8_setsDelay_X8_isLink rfl (by decide +kernel) rfl ⟨Nat.le_of_ble_eq_true rfl, Nat.le_of_ble_eq_true rfl⟩ [0] rfl (by decide) (Bs' := [moB Y mo M]) rfl rfl 0 0 rfl rfl rfl rfl (Nat.le_of_ble_eq_true rfl) dX8_setsDelay_2 ⟨Nat.zero_le _, Nat.zero_le _⟩ ?_
  refine j_if_eq cx (pc := 5) (tgt := 15) dX8_setsDelay_5 (by decide) (fun c5_1 => ?_) (fun c5_1 => ?_)
  · skip
    refine j_iconst cx (pc := 15) (v := (-1)) dX8_setsDelay_15 (by decide) ?_
    subst hQ; exact j_iret cx hr (by simp only [C8_setsDelay, if_pos c5_1]) (by simp only [C8_setsDelay, if_pos c5_1]) hA dX8_setsDelay_16
  · skip
    refine j_iload_n cx (pc := 8) dX8_setsDelay_8 2 rfl ?_
    refine j_calls cx (pc := 9) 1 (c_X8_isWire l D Y wire ) gX8_setsDelay_X8_isWire rfl (by decide +kernel) rfl ⟨Nat.le_of_ble_eq_true rfl, Nat.le_of_ble_eq_true rfl⟩ rfl (Nat.le_of_ble_eq_true rfl) dX8_setsDelay_9 ⟨Nat.zero_le _, Nat.zero_le _⟩ ?_
    refine j_if_ne cx (pc := 12) (tgt := 17) dX8_setsDelay_12 (by decide) (fun c12_2 => ?_) (fun c12_2 => ?_)
    · skip
      refine j_iload_n cx (pc := 17) dX8_setsDelay_17 3 rfl ?_
      refine j_iconst cx (pc := 18) (v := (nI 1)) dX8_setsDelay_18 (by decide) ?_
      refine j_bipush cx (pc := 19) (v := (nI 20)) dX8_setsDelay_19 (by decide) ?_
      refine j_calls cx (pc := 21) 3 (c_X8_within l D Y delay (nI 1) (nI 20) ) gX8_setsDelay_X8_within rfl (by decide +kernel) rfl ⟨Nat.le_of_ble_eq_true rfl, Nat.le_of_ble_eq_true rfl⟩ rfl (Nat.le_of_ble_eq_true rfl) dX8_setsDelay_21 ⟨Nat.zero_le _, Nat.zero_le _⟩ ?_
      refine j_if_ne cx (pc := 24) (tgt := 30) dX8_setsDelay_24 (by decide) (fun c24_3 => ?_) (fun c24_3 => ?_)
      · skip
        have hst7 : tN (M 1 3) < 7 := inL hst
        have hlc : ¬ C8_within link (nI 0) (nI (tN (M 1 3))) = 0 := by rw [← inN hst]; exact c5_1
        obtain ⟨lk, hlk⟩ : ∃ z : Nat, z = tN link := ⟨_, rfl⟩
        have lk0 := wi_ok (a := 0) (b := tN (M 1 3)) (by decide) (by first | decide | omega) hlc
        have lk1 : link = nI lk := by rw [hlk]; exact lk0.1
        have lk2 : 0 ≤ lk ∧ lk ≤ tN (M 1 3) := by rw [hlk]; exact ⟨lk0.2.1, lk0.2.2⟩
        have hwc : ¬ C8_within wire (nI 0) (nI 2) = 0 := c12_2
        obtain ⟨wr, hwr⟩ : ∃ z : Nat, z = tN wire := ⟨_, rfl⟩
        have wr0 := wi_ok (a := 0) (b := 2) (by decide) (by first | decide | omega) hwc
        have wr1 : wire = nI wr := by rw [hwr]; exact wr0.1
        have wr2 : 0 ≤ wr ∧ wr ≤ 2 := by rw [hwr]; exact ⟨wr0.2.1, wr0.2.2⟩
        refine j_bipush cx (pc := 30) (v := (nI 13)) dX8_setsDelay_30 (by decide) ?_
        refine j_iconst cx (pc := 32) (v := (nI 3)) dX8_setsDelay_32 (by decide) ?_
        refine j_iload_n cx (pc := 33) dX8_setsDelay_33 1 rfl ?_
        refine j_top (show link = (nI lk) from lk1) ?_
        refine j_imulN cx (pc := 34) dX8_setsDelay_34 ?_
        refine j_iaddN cx (pc := 35) dX8_setsDelay_35 ?_
        refine j_iload_n cx (pc := 36) dX8_setsDelay_36 2 rfl ?_
        refine j_top (show wire = (nI wr) from wr1) ?_
        refine j_iaddN cx (pc := 37) dX8_setsDelay_37 ?_
        refine j_istore cx (pc := 38) (lv' := [(4, .int (nI ((13 + (3 * lk)) + wr))), (0, .ref (mo 0)), (1, .int link), (2, .int wire), (3, .int delay)]) dX8_setsDelay_38 (by decide) rfl ?_
        refine j_aload_n cx (pc := 40) dX8_setsDelay_40 1 rfl ?_
        refine j_get cx (pc := 41) 0 0 rfl rfl (C := RX8) (T := TX8) (N := 12) rfl hinX8 0 (by decide) f7 rfl (v := .ref (mo 1)) rfl dX8_setsDelay_41 ?_
        refine j_iload cx (pc := 44) dX8_setsDelay_44 0 rfl ?_
        refine j_iald cx (pc := 46) 0 1 0 rfl rfl rfl (by omega) (by decide) dX8_setsDelay_46 ?_
        refine j_istore cx (pc := 47) (lv' := [(5, .int (M 1 ((13 + (3 * lk)) + wr))), (4, .int (nI ((13 + (3 * lk)) + wr))), (0, .ref (mo 0)), (1, .int link), (2, .int wire), (3, .int delay)]) dX8_setsDelay_47 (by decide) rfl ?_
        refine j_aload_n cx (pc := 49) dX8_setsDelay_49 2 rfl ?_
        refine j_get cx (pc := 50) 0 0 rfl rfl (C := RX8) (T := TX8) (N := 12) rfl hinX8 0 (by decide) f7 rfl (v := .ref (mo 1)) rfl dX8_setsDelay_50 ?_
        refine j_iload cx (pc := 53) dX8_setsDelay_53 1 rfl ?_
        refine j_iload_n cx (pc := 55) dX8_setsDelay_55 5 rfl ?_
        obtain ⟨V1, hV1⟩ : ∃ z, z = up1 M 1 ((13 + (3 * lk)) + wr) delay := ⟨_, rfl⟩
        refine j_iast cx (pc := 56) 0 1 0 rfl rfl rfl (by omega) (by decide) (Bs' := [moB Y mo V1]) (by rw [hV1]; rfl) dX8_setsDelay_56 ?_
        refine j_iload cx (pc := 57) dX8_setsDelay_57 0 rfl ?_
        refine j_iload_n cx (pc := 59) dX8_setsDelay_59 5 rfl ?_
        refine j_icmp_ne cx (pc := 60) (tgt := 68) dX8_setsDelay_60 (by decide) (fun c60_4 => ?_) (fun c60_4 => ?_)
        · skip
          refine j_iload cx (pc := 68) dX8_setsDelay_68 0 rfl ?_
          subst hQ; exact j_iret cx hr (by subst hV1; subst hwr; subst hlk; simp only [C8_setsDelay, if_neg c5_1, if_neg c12_2, if_neg c24_3, if_neg c60_4]) (by subst hV1; subst hwr; subst hlk; simp only [C8_setsDelay, if_neg c5_1, if_neg c12_2, if_neg c24_3, if_neg c60_4]) hA dX8_setsDelay_70
        · skip
          refine j_bipush cx (pc := 63) (v := (-5)) dX8_setsDelay_63 (by decide) ?_
          refine j_goto cx (pc := 65) (tgt := 70) dX8_setsDelay_65 (by decide) ?_
          subst hQ; exact j_iret cx hr (by subst hV1; subst hwr; subst hlk; simp only [C8_setsDelay, if_neg c5_1, if_neg c12_2, if_neg c24_3, if_pos c60_4]) (by subst hV1; subst hwr; subst hlk; simp only [C8_setsDelay, if_neg c5_1, if_neg c12_2, if_neg c24_3, if_pos c60_4]) hA dX8_setsDelay_70
      · skip
        refine j_bipush cx (pc := 27) (v := (-2)) dX8_setsDelay_27 (by decide) ?_
        subst hQ; exact j_iret cx hr (by simp only [C8_setsDelay, if_neg c5_1, if_neg c12_2, if_pos c24_3]) (by simp only [C8_setsDelay, if_neg c5_1, if_neg c12_2, if_pos c24_3]) hA dX8_setsDelay_29
    · skip
      refine j_iconst cx (pc := 15) (v := (-1)) dX8_setsDelay_15 (by decide) ?_
      subst hQ; exact j_iret cx hr (by simp only [C8_setsDelay, if_neg c5_1, if_pos c12_2]) (by simp only [C8_setsDelay, if_neg c5_1, if_pos c12_2]) hA dX8_setsDelay_16
def C8_fullStages (M : Nat → Nat → Int32)  : Int32 :=
  (((((((nI 0) + (M 1 97)) + (M 1 98)) + (M 1 99)) + (M 1 100)) + (M 1 101)) + (M 1 102))
set_option maxHeartbeats 4000000 in
set_option maxRecDepth 100000 in
theorem c_X8_fullStages (l : Launch) (D : va_G) (Y : Nat → ClassId) (mo : Nat → Nat) (M : Nat → Nat → Int32)   : CtI l yX8_fullStages wsX8_fullStages 0 0 D (tyL Y) ([moB Y mo M]) [.ref (mo 0)] (C8_fullStages M ) ([moB Y mo M]) := by
  refine CtI.intro (own := RX8) (cc := cX8_fullStages) (maxL := 3) rfl (by decide +kernel) rfl (Nat.le_of_ble_eq_true rfl) (fun p e s m args below meth c A Q hA hQ cx hr => ?_)
  have hinX8 : ∀ w ∈ wsX80, w ∈ wsX8_fullStages := by decide +kernel
  have f7 : Cond.fieldLink RX8 7 "FourPhasesModel" "state" "[I" ∈ wsX8_fullStages := by decide +kernel
  refine j_iconst cx (pc := 0) (v := (nI 0)) dX8_fullStages_0 (by decide) ?_
  refine j_istore_n cx (pc := 1) (lv' := [(1, .int (nI 0)), (0, .ref (mo 0))]) dX8_fullStages_1 (by decide) rfl ?_
  refine j_iconst cx (pc := 2) (v := (nI 0)) dX8_fullStages_2 (by decide) ?_
  refine j_istore_n cx (pc := 3) (lv' := [(2, .int (nI 0)), (1, .int (nI 0)), (0, .ref (mo 0))]) dX8_fullStages_3 (by decide) rfl ?_
  refine j_iload_n cx (pc := 4) dX8_fullStages_4 0 rfl ?_
  refine j_bipush cx (pc := 5) (v := (nI 6)) dX8_fullStages_5 (by decide) ?_
  refine j_icmpN_ge cx (pc := 7) (by decide) (by decide) (tgt := 28) dX8_fullStages_7 (by decide) (fun c7_1 => by exfalso; revert c7_1; decide) (fun c7_1 => ?_)
  refine j_iload_n cx (pc := 10) dX8_fullStages_10 1 rfl ?_
  refine j_aload_n cx (pc := 11) dX8_fullStages_11 2 rfl ?_
  refine j_get cx (pc := 12) 0 0 rfl rfl (C := RX8) (T := TX8) (N := 12) rfl hinX8 0 (by decide) f7 rfl (v := .ref (mo 1)) rfl dX8_fullStages_12 ?_
  refine j_bipush cx (pc := 15) (v := (nI 97)) dX8_fullStages_15 (by decide) ?_
  refine j_iload_n cx (pc := 17) dX8_fullStages_17 0 rfl ?_
  refine j_iaddN cx (pc := 18) dX8_fullStages_18 ?_
  refine j_top (show nI (97 + 0) = nI 97 from rfl) ?_
  refine j_iald cx (pc := 19) 0 1 0 rfl rfl rfl (by decide) (by decide) dX8_fullStages_19 ?_
  refine j_iadd cx (pc := 20) dX8_fullStages_20 ?_
  refine j_istore_n cx (pc := 21) (lv' := [(1, .int ((nI 0) + (M 1 97))), (2, .int (nI 0)), (0, .ref (mo 0))]) dX8_fullStages_21 (by decide) rfl ?_
  refine j_iinc cx (pc := 22) (v := (nI 1)) (lv' := [(2, .int (nI 1)), (1, .int ((nI 0) + (M 1 97))), (0, .ref (mo 0))]) dX8_fullStages_22 1 rfl rfl (by decide) rfl ?_
  refine j_goto cx (pc := 25) (tgt := 4) dX8_fullStages_25 (by decide) ?_
  refine j_iload_n cx (pc := 4) dX8_fullStages_4 0 rfl ?_
  refine j_bipush cx (pc := 5) (v := (nI 6)) dX8_fullStages_5 (by decide) ?_
  refine j_icmpN_ge cx (pc := 7) (by decide) (by decide) (tgt := 28) dX8_fullStages_7 (by decide) (fun c7_2 => by exfalso; revert c7_2; decide) (fun c7_2 => ?_)
  refine j_iload_n cx (pc := 10) dX8_fullStages_10 1 rfl ?_
  refine j_aload_n cx (pc := 11) dX8_fullStages_11 2 rfl ?_
  refine j_get cx (pc := 12) 0 0 rfl rfl (C := RX8) (T := TX8) (N := 12) rfl hinX8 0 (by decide) f7 rfl (v := .ref (mo 1)) rfl dX8_fullStages_12 ?_
  refine j_bipush cx (pc := 15) (v := (nI 97)) dX8_fullStages_15 (by decide) ?_
  refine j_iload_n cx (pc := 17) dX8_fullStages_17 0 rfl ?_
  refine j_iaddN cx (pc := 18) dX8_fullStages_18 ?_
  refine j_top (show nI (97 + 1) = nI 98 from rfl) ?_
  refine j_iald cx (pc := 19) 0 1 0 rfl rfl rfl (by decide) (by decide) dX8_fullStages_19 ?_
  refine j_iadd cx (pc := 20) dX8_fullStages_20 ?_
  refine j_istore_n cx (pc := 21) (lv' := [(1, .int (((nI 0) + (M 1 97)) + (M 1 98))), (2, .int (nI 1)), (0, .ref (mo 0))]) dX8_fullStages_21 (by decide) rfl ?_
  refine j_iinc cx (pc := 22) (v := (nI 2)) (lv' := [(2, .int (nI 2)), (1, .int (((nI 0) + (M 1 97)) + (M 1 98))), (0, .ref (mo 0))]) dX8_fullStages_22 1 rfl rfl (by decide) rfl ?_
  refine j_goto cx (pc := 25) (tgt := 4) dX8_fullStages_25 (by decide) ?_
  refine j_iload_n cx (pc := 4) dX8_fullStages_4 0 rfl ?_
  refine j_bipush cx (pc := 5) (v := (nI 6)) dX8_fullStages_5 (by decide) ?_
  refine j_icmpN_ge cx (pc := 7) (by decide) (by decide) (tgt := 28) dX8_fullStages_7 (by decide) (fun c7_3 => by exfalso; revert c7_3; decide) (fun c7_3 => ?_)
  refine j_iload_n cx (pc := 10) dX8_fullStages_10 1 rfl ?_
  refine j_aload_n cx (pc := 11) dX8_fullStages_11 2 rfl ?_
  refine j_get cx (pc := 12) 0 0 rfl rfl (C := RX8) (T := TX8) (N := 12) rfl hinX8 0 (by decide) f7 rfl (v := .ref (mo 1)) rfl dX8_fullStages_12 ?_
  refine j_bipush cx (pc := 15) (v := (nI 97)) dX8_fullStages_15 (by decide) ?_
  refine j_iload_n cx (pc := 17) dX8_fullStages_17 0 rfl ?_
  refine j_iaddN cx (pc := 18) dX8_fullStages_18 ?_
  refine j_top (show nI (97 + 2) = nI 99 from rfl) ?_
  refine j_iald cx (pc := 19) 0 1 0 rfl rfl rfl (by decide) (by decide) dX8_fullStages_19 ?_
  refine j_iadd cx (pc := 20) dX8_fullStages_20 ?_
  refine j_istore_n cx (pc := 21) (lv' := [(1, .int ((((nI 0) + (M 1 97)) + (M 1 98)) + (M 1 99))), (2, .int (nI 2)), (0, .ref (mo 0))]) dX8_fullStages_21 (by decide) rfl ?_
  refine j_iinc cx (pc := 22) (v := (nI 3)) (lv' := [(2, .int (nI 3)), (1, .int ((((nI 0) + (M 1 97)) + (M 1 98)) + (M 1 99))), (0, .ref (mo 0))]) dX8_fullStages_22 1 rfl rfl (by decide) rfl ?_
  refine j_goto cx (pc := 25) (tgt := 4) dX8_fullStages_25 (by decide) ?_
  refine j_iload_n cx (pc := 4) dX8_fullStages_4 0 rfl ?_
  refine j_bipush cx (pc := 5) (v := (nI 6)) dX8_fullStages_5 (by decide) ?_
  refine j_icmpN_ge cx (pc := 7) (by decide) (by decide) (tgt := 28) dX8_fullStages_7 (by decide) (fun c7_4 => by exfalso; revert c7_4; decide) (fun c7_4 => ?_)
  refine j_iload_n cx (pc := 10) dX8_fullStages_10 1 rfl ?_
  refine j_aload_n cx (pc := 11) dX8_fullStages_11 2 rfl ?_
  refine j_get cx (pc := 12) 0 0 rfl rfl (C := RX8) (T := TX8) (N := 12) rfl hinX8 0 (by decide) f7 rfl (v := .ref (mo 1)) rfl dX8_fullStages_12 ?_
  refine j_bipush cx (pc := 15) (v := (nI 97)) dX8_fullStages_15 (by decide) ?_
  refine j_iload_n cx (pc := 17) dX8_fullStages_17 0 rfl ?_
  refine j_iaddN cx (pc := 18) dX8_fullStages_18 ?_
  refine j_top (show nI (97 + 3) = nI 100 from rfl) ?_
  refine j_iald cx (pc := 19) 0 1 0 rfl rfl rfl (by decide) (by decide) dX8_fullStages_19 ?_
  refine j_iadd cx (pc := 20) dX8_fullStages_20 ?_
  refine j_istore_n cx (pc := 21) (lv' := [(1, .int (((((nI 0) + (M 1 97)) + (M 1 98)) + (M 1 99)) + (M 1 100))), (2, .int (nI 3)), (0, .ref (mo 0))]) dX8_fullStages_21 (by decide) rfl ?_
  refine j_iinc cx (pc := 22) (v := (nI 4)) (lv' := [(2, .int (nI 4)), (1, .int (((((nI 0) + (M 1 97)) + (M 1 98)) + (M 1 99)) + (M 1 100))), (0, .ref (mo 0))]) dX8_fullStages_22 1 rfl rfl (by decide) rfl ?_
  refine j_goto cx (pc := 25) (tgt := 4) dX8_fullStages_25 (by decide) ?_
  refine j_iload_n cx (pc := 4) dX8_fullStages_4 0 rfl ?_
  refine j_bipush cx (pc := 5) (v := (nI 6)) dX8_fullStages_5 (by decide) ?_
  refine j_icmpN_ge cx (pc := 7) (by decide) (by decide) (tgt := 28) dX8_fullStages_7 (by decide) (fun c7_5 => by exfalso; revert c7_5; decide) (fun c7_5 => ?_)
  refine j_iload_n cx (pc := 10) dX8_fullStages_10 1 rfl ?_
  refine j_aload_n cx (pc := 11) dX8_fullStages_11 2 rfl ?_
  refine j_get cx (pc := 12) 0 0 rfl rfl (C := RX8) (T := TX8) (N := 12) rfl hinX8 0 (by decide) f7 rfl (v := .ref (mo 1)) rfl dX8_fullStages_12 ?_
  refine j_bipush cx (pc := 15) (v := (nI 97)) dX8_fullStages_15 (by decide) ?_
  refine j_iload_n cx (pc := 17) dX8_fullStages_17 0 rfl ?_
  refine j_iaddN cx (pc := 18) dX8_fullStages_18 ?_
  refine j_top (show nI (97 + 4) = nI 101 from rfl) ?_
  refine j_iald cx (pc := 19) 0 1 0 rfl rfl rfl (by decide) (by decide) dX8_fullStages_19 ?_
  refine j_iadd cx (pc := 20) dX8_fullStages_20 ?_
  refine j_istore_n cx (pc := 21) (lv' := [(1, .int ((((((nI 0) + (M 1 97)) + (M 1 98)) + (M 1 99)) + (M 1 100)) + (M 1 101))), (2, .int (nI 4)), (0, .ref (mo 0))]) dX8_fullStages_21 (by decide) rfl ?_
  refine j_iinc cx (pc := 22) (v := (nI 5)) (lv' := [(2, .int (nI 5)), (1, .int ((((((nI 0) + (M 1 97)) + (M 1 98)) + (M 1 99)) + (M 1 100)) + (M 1 101))), (0, .ref (mo 0))]) dX8_fullStages_22 1 rfl rfl (by decide) rfl ?_
  refine j_goto cx (pc := 25) (tgt := 4) dX8_fullStages_25 (by decide) ?_
  refine j_iload_n cx (pc := 4) dX8_fullStages_4 0 rfl ?_
  refine j_bipush cx (pc := 5) (v := (nI 6)) dX8_fullStages_5 (by decide) ?_
  refine j_icmpN_ge cx (pc := 7) (by decide) (by decide) (tgt := 28) dX8_fullStages_7 (by decide) (fun c7_6 => by exfalso; revert c7_6; decide) (fun c7_6 => ?_)
  refine j_iload_n cx (pc := 10) dX8_fullStages_10 1 rfl ?_
  refine j_aload_n cx (pc := 11) dX8_fullStages_11 2 rfl ?_
  refine j_get cx (pc := 12) 0 0 rfl rfl (C := RX8) (T := TX8) (N := 12) rfl hinX8 0 (by decide) f7 rfl (v := .ref (mo 1)) rfl dX8_fullStages_12 ?_
  refine j_bipush cx (pc := 15) (v := (nI 97)) dX8_fullStages_15 (by decide) ?_
  refine j_iload_n cx (pc := 17) dX8_fullStages_17 0 rfl ?_
  refine j_iaddN cx (pc := 18) dX8_fullStages_18 ?_
  refine j_top (show nI (97 + 5) = nI 102 from rfl) ?_
  refine j_iald cx (pc := 19) 0 1 0 rfl rfl rfl (by decide) (by decide) dX8_fullStages_19 ?_
  refine j_iadd cx (pc := 20) dX8_fullStages_20 ?_
  refine j_istore_n cx (pc := 21) (lv' := [(1, .int (((((((nI 0) + (M 1 97)) + (M 1 98)) + (M 1 99)) + (M 1 100)) + (M 1 101)) + (M 1 102))), (2, .int (nI 5)), (0, .ref (mo 0))]) dX8_fullStages_21 (by decide) rfl ?_
  refine j_iinc cx (pc := 22) (v := (nI 6)) (lv' := [(2, .int (nI 6)), (1, .int (((((((nI 0) + (M 1 97)) + (M 1 98)) + (M 1 99)) + (M 1 100)) + (M 1 101)) + (M 1 102))), (0, .ref (mo 0))]) dX8_fullStages_22 1 rfl rfl (by decide) rfl ?_
  refine j_goto cx (pc := 25) (tgt := 4) dX8_fullStages_25 (by decide) ?_
  refine j_iload_n cx (pc := 4) dX8_fullStages_4 0 rfl ?_
  refine j_bipush cx (pc := 5) (v := (nI 6)) dX8_fullStages_5 (by decide) ?_
  refine j_icmpN_ge cx (pc := 7) (by decide) (by decide) (tgt := 28) dX8_fullStages_7 (by decide) (fun c7_7 => ?_) (fun c7_7 => by exfalso; revert c7_7; decide)
  refine j_iload_n cx (pc := 28) dX8_fullStages_28 1 rfl ?_
  subst hQ; exact j_iret cx hr (by rfl) rfl hA dX8_fullStages_29
def C8_tellsLink (M : Nat → Nat → Int32) (link : Nat) (what : Nat) : Int32 :=
  if 3 ≤ what then
    if 9 ≤ what then
      if (nI what) = nI 9 then
        (M 1 (76 + link))
      else
        if (nI what) = nI 10 then
          (M 1 (83 + link))
        else
          if (nI what) = nI 11 then
            (M 1 (90 + link))
          else
            if ((M 1 ((13 + (3 * link)) + 0)) + (M 1 0)) < (M 1 ((13 + (3 * link)) + 2)) then
              (nI 0)
            else
              (nI 1)
    else
      (C8_end M link (what - 3))
  else
    (M 1 ((13 + (3 * link)) + what))
set_option maxHeartbeats 4000000 in
set_option maxRecDepth 100000 in
theorem c_X8_tellsLink (l : Launch) (D : va_G) (Y : Nat → ClassId) (mo : Nat → Nat) (M : Nat → Nat → Int32) (link : Nat) (what : Nat) (hk : link < 7) (hw : what < 13) : CtI l yX8_tellsLink wsX8_tellsLink 1 22 D (tyL Y) ([moB Y mo M]) [.ref (mo 0), .int (nI link), .int (nI what)] (C8_tellsLink M link what) ([moB Y mo M]) := by
  refine CtI.intro (own := RX8) (cc := cX8_tellsLink) (maxL := 4) rfl (by decide +kernel) rfl (Nat.le_of_ble_eq_true rfl) (fun p e s m args below meth c A Q hA hQ cx hr => ?_)
  have hinX8 : ∀ w ∈ wsX80, w ∈ wsX8_tellsLink := by decide +kernel
  have f7 : Cond.fieldLink RX8 7 "FourPhasesModel" "state" "[I" ∈ wsX8_tellsLink := by decide +kernel
  refine j_iload_n cx (pc := 0) dX8_tellsLink_0 2 rfl ?_
  refine j_iconst cx (pc := 1) (v := (nI 3)) dX8_tellsLink_1 (by decide) ?_
  refine j_icmpN_ge cx (pc := 2) (by omega) (by decide) (tgt := 19) dX8_tellsLink_2 (by decide) (fun c2_1 => ?_) (fun c2_1 => ?_)
  · skip
    refine j_iload_n cx (pc := 19) dX8_tellsLink_19 2 rfl ?_
    refine j_bipush cx (pc := 20) (v := (nI 9)) dX8_tellsLink_20 (by decide) ?_
    refine j_icmpN_ge cx (pc := 22) (by omega) (by decide) (tgt := 34) dX8_tellsLink_22 (by decide) (fun c22_2 => ?_) (fun c22_2 => ?_)
    · skip
      refine j_iload_n cx (pc := 34) dX8_tellsLink_34 2 rfl ?_
      by_cases s35_3 : (nI what) = nI 9
      · skip
        refine j_tableIn cx (pc := 35) dX8_tellsLink_35 (by rw [s35_3]; decide) (by rw [s35_3]; decide) (off := 25) (by rw [s35_3]; decide) (tgt := 60) (by decide) ?_
        refine j_aload_n cx (pc := 60) dX8_tellsLink_60 0 rfl ?_
        refine j_get cx (pc := 61) 0 0 rfl rfl (C := RX8) (T := TX8) (N := 12) rfl hinX8 0 (by decide) f7 rfl (v := .ref (mo 1)) rfl dX8_tellsLink_61 ?_
        refine j_bipush cx (pc := 64) (v := (nI 76)) dX8_tellsLink_64 (by decide) ?_
        refine j_iload_n cx (pc := 66) dX8_tellsLink_66 1 rfl ?_
        refine j_iaddN cx (pc := 67) dX8_tellsLink_67 ?_
        refine j_iald cx (pc := 68) 0 1 0 rfl rfl rfl (by omega) (by decide) dX8_tellsLink_68 ?_
        subst hQ; exact j_iret cx hr (by simp only [C8_tellsLink, if_pos c2_1, if_pos c22_2, if_pos s35_3]) rfl hA dX8_tellsLink_69
      by_cases s35_4 : (nI what) = nI 10
      · skip
        refine j_tableIn cx (pc := 35) dX8_tellsLink_35 (by rw [s35_4]; decide) (by rw [s35_4]; decide) (off := 35) (by rw [s35_4]; decide) (tgt := 70) (by decide) ?_
        refine j_aload_n cx (pc := 70) dX8_tellsLink_70 0 rfl ?_
        refine j_get cx (pc := 71) 0 0 rfl rfl (C := RX8) (T := TX8) (N := 12) rfl hinX8 0 (by decide) f7 rfl (v := .ref (mo 1)) rfl dX8_tellsLink_71 ?_
        refine j_bipush cx (pc := 74) (v := (nI 83)) dX8_tellsLink_74 (by decide) ?_
        refine j_iload_n cx (pc := 76) dX8_tellsLink_76 1 rfl ?_
        refine j_iaddN cx (pc := 77) dX8_tellsLink_77 ?_
        refine j_iald cx (pc := 78) 0 1 0 rfl rfl rfl (by omega) (by decide) dX8_tellsLink_78 ?_
        subst hQ; exact j_iret cx hr (by simp only [C8_tellsLink, if_pos c2_1, if_pos c22_2, if_neg s35_3, if_pos s35_4]) rfl hA dX8_tellsLink_79
      by_cases s35_5 : (nI what) = nI 11
      · skip
        refine j_tableIn cx (pc := 35) dX8_tellsLink_35 (by rw [s35_5]; decide) (by rw [s35_5]; decide) (off := 45) (by rw [s35_5]; decide) (tgt := 80) (by decide) ?_
        refine j_aload_n cx (pc := 80) dX8_tellsLink_80 0 rfl ?_
        refine j_get cx (pc := 81) 0 0 rfl rfl (C := RX8) (T := TX8) (N := 12) rfl hinX8 0 (by decide) f7 rfl (v := .ref (mo 1)) rfl dX8_tellsLink_81 ?_
        refine j_bipush cx (pc := 84) (v := (nI 90)) dX8_tellsLink_84 (by decide) ?_
        refine j_iload_n cx (pc := 86) dX8_tellsLink_86 1 rfl ?_
        refine j_iaddN cx (pc := 87) dX8_tellsLink_87 ?_
        refine j_iald cx (pc := 88) 0 1 0 rfl rfl rfl (by omega) (by decide) dX8_tellsLink_88 ?_
        subst hQ; exact j_iret cx hr (by simp only [C8_tellsLink, if_pos c2_1, if_pos c22_2, if_neg s35_3, if_neg s35_4, if_pos s35_5]) rfl hA dX8_tellsLink_89
      refine j_tableOut cx (pc := 35) dX8_tellsLink_35 (sw_out 9 11 (by decide) (by intro j h1 h2; rcases (show j = 9 ∨ j = 10 ∨ j = 11 from by omega) with rfl | rfl | rfl <;> assumption)) (tgt := 90) (by decide) ?_
      refine j_aload_n cx (pc := 90) dX8_tellsLink_90 0 rfl ?_
      refine j_get cx (pc := 91) 0 0 rfl rfl (C := RX8) (T := TX8) (N := 12) rfl hinX8 0 (by decide) f7 rfl (v := .ref (mo 1)) rfl dX8_tellsLink_91 ?_
      refine j_bipush cx (pc := 94) (v := (nI 13)) dX8_tellsLink_94 (by decide) ?_
      refine j_iconst cx (pc := 96) (v := (nI 3)) dX8_tellsLink_96 (by decide) ?_
      refine j_iload_n cx (pc := 97) dX8_tellsLink_97 1 rfl ?_
      refine j_imulN cx (pc := 98) dX8_tellsLink_98 ?_
      refine j_iaddN cx (pc := 99) dX8_tellsLink_99 ?_
      refine j_iconst cx (pc := 100) (v := (nI 0)) dX8_tellsLink_100 (by decide) ?_
      refine j_iaddN cx (pc := 101) dX8_tellsLink_101 ?_
      refine j_iald cx (pc := 102) 0 1 0 rfl rfl rfl (by omega) (by decide) dX8_tellsLink_102 ?_
      refine j_aload_n cx (pc := 103) dX8_tellsLink_103 0 rfl ?_
      refine j_get cx (pc := 104) 0 0 rfl rfl (C := RX8) (T := TX8) (N := 12) rfl hinX8 0 (by decide) f7 rfl (v := .ref (mo 1)) rfl dX8_tellsLink_104 ?_
      refine j_iconst cx (pc := 107) (v := (nI 0)) dX8_tellsLink_107 (by decide) ?_
      refine j_iald cx (pc := 108) 0 1 0 rfl rfl rfl (by decide) (by decide) dX8_tellsLink_108 ?_
      refine j_iadd cx (pc := 109) dX8_tellsLink_109 ?_
      refine j_istore_n cx (pc := 110) (lv' := [(3, .int ((M 1 ((13 + (3 * link)) + 0)) + (M 1 0))), (0, .ref (mo 0)), (1, .int (nI link)), (2, .int (nI what))]) dX8_tellsLink_110 (by decide) rfl ?_
      refine j_aload_n cx (pc := 111) dX8_tellsLink_111 1 rfl ?_
      refine j_get cx (pc := 112) 0 0 rfl rfl (C := RX8) (T := TX8) (N := 12) rfl hinX8 0 (by decide) f7 rfl (v := .ref (mo 1)) rfl dX8_tellsLink_112 ?_
      refine j_bipush cx (pc := 115) (v := (nI 13)) dX8_tellsLink_115 (by decide) ?_
      refine j_iconst cx (pc := 117) (v := (nI 3)) dX8_tellsLink_117 (by decide) ?_
      refine j_iload_n cx (pc := 118) dX8_tellsLink_118 2 rfl ?_
      refine j_imulN cx (pc := 119) dX8_tellsLink_119 ?_
      refine j_iaddN cx (pc := 120) dX8_tellsLink_120 ?_
      refine j_iconst cx (pc := 121) (v := (nI 2)) dX8_tellsLink_121 (by decide) ?_
      refine j_iaddN cx (pc := 122) dX8_tellsLink_122 ?_
      refine j_iald cx (pc := 123) 0 1 0 rfl rfl rfl (by omega) (by decide) dX8_tellsLink_123 ?_
      refine j_iload_n cx (pc := 124) dX8_tellsLink_124 0 rfl ?_
      refine j_icmp_gt cx (pc := 125) (tgt := 132) dX8_tellsLink_125 (by decide) (fun c125_6 => ?_) (fun c125_6 => ?_)
      · skip
        refine j_iconst cx (pc := 132) (v := (nI 0)) dX8_tellsLink_132 (by decide) ?_
        subst hQ; exact j_iret cx hr (by simp only [C8_tellsLink, if_pos c2_1, if_pos c22_2, if_neg s35_3, if_neg s35_4, if_neg s35_5, if_pos c125_6]) rfl hA dX8_tellsLink_133
      · skip
        refine j_iconst cx (pc := 128) (v := (nI 1)) dX8_tellsLink_128 (by decide) ?_
        refine j_goto cx (pc := 129) (tgt := 133) dX8_tellsLink_129 (by decide) ?_
        subst hQ; exact j_iret cx hr (by simp only [C8_tellsLink, if_pos c2_1, if_pos c22_2, if_neg s35_3, if_neg s35_4, if_neg s35_5, if_neg c125_6]) rfl hA dX8_tellsLink_133
    · skip
      refine j_aload_n cx (pc := 25) dX8_tellsLink_25 0 rfl ?_
      refine j_iload_n cx (pc := 26) dX8_tellsLink_26 1 rfl ?_
      refine j_iload_n cx (pc := 27) dX8_tellsLink_27 2 rfl ?_
      refine j_iconst cx (pc := 28) (v := (nI 3)) dX8_tellsLink_28 (by decide) ?_
      refine j_isubN cx (pc := 29) (by omega) dX8_tellsLink_29 ?_
      refine j_calli cx (pc := 30) 2 (c_X8_end l D Y mo M link (what - 3) (by omega) (by omega)) gX8_tellsLink_X8_end rfl (by decide +kernel) rfl ⟨Nat.le_of_ble_eq_true rfl, Nat.le_of_ble_eq_true rfl⟩ [0] rfl (by decide) (Bs' := [moB Y mo M]) rfl rfl 0 0 rfl rfl rfl rfl (Nat.le_of_ble_eq_true rfl) dX8_tellsLink_30 ⟨Nat.zero_le _, Nat.zero_le _⟩ ?_
      subst hQ; exact j_iret cx hr (by simp only [C8_tellsLink, if_pos c2_1, if_neg (Nat.not_le.mpr c22_2)]) rfl hA dX8_tellsLink_33
  · skip
    refine j_aload_n cx (pc := 5) dX8_tellsLink_5 0 rfl ?_
    refine j_get cx (pc := 6) 0 0 rfl rfl (C := RX8) (T := TX8) (N := 12) rfl hinX8 0 (by decide) f7 rfl (v := .ref (mo 1)) rfl dX8_tellsLink_6 ?_
    refine j_bipush cx (pc := 9) (v := (nI 13)) dX8_tellsLink_9 (by decide) ?_
    refine j_iconst cx (pc := 11) (v := (nI 3)) dX8_tellsLink_11 (by decide) ?_
    refine j_iload_n cx (pc := 12) dX8_tellsLink_12 1 rfl ?_
    refine j_imulN cx (pc := 13) dX8_tellsLink_13 ?_
    refine j_iaddN cx (pc := 14) dX8_tellsLink_14 ?_
    refine j_iload_n cx (pc := 15) dX8_tellsLink_15 2 rfl ?_
    refine j_iaddN cx (pc := 16) dX8_tellsLink_16 ?_
    refine j_iald cx (pc := 17) 0 1 0 rfl rfl rfl (by omega) (by decide) dX8_tellsLink_17 ?_
    subst hQ; exact j_iret cx hr (by simp only [C8_tellsLink, if_neg (Nat.not_le.mpr c2_1)]) rfl hA dX8_tellsLink_18
def C8_link (M : Nat → Nat → Int32) (link : Int32) (what : Int32) : Int32 :=
  if (C8_isLink M link) = 0 then
    (-1)
  else
    if (C8_within what (nI 0) (nI 12)) = 0 then
      (-2)
    else
      let lk := tN link
      let wh := tN what
      (C8_tellsLink M lk wh)
set_option maxHeartbeats 4000000 in
set_option maxRecDepth 100000 in
theorem c_X8_link (l : Launch) (D : va_G) (Y : Nat → ClassId) (mo : Nat → Nat) (M : Nat → Nat → Int32) (link : Int32) (what : Int32) (hst : vp_in (M 1 3) 7) : CtI l yX8_link wsX8_link 2 45 D (tyL Y) ([moB Y mo M]) [.ref (mo 0), .int link, .int what] (C8_link M link what) ([moB Y mo M]) := by
  refine CtI.intro (own := RX8) (cc := cX8_link) (maxL := 3) rfl (by decide +kernel) rfl (Nat.le_of_ble_eq_true rfl) (fun p e s m args below meth c A Q hA hQ cx hr => ?_)
  refine j_aload_n cx (pc := 0) dX8_link_0 0 rfl ?_
  refine j_iload_n cx (pc := 1) dX8_link_1 1 rfl ?_
  refine j_calli cx (pc := 2) 1 (c_X8_isLink l D Y mo M link ) gX8_link_X8_isLink rfl (by decide +kernel) rfl ⟨Nat.le_of_ble_eq_true rfl, Nat.le_of_ble_eq_true rfl⟩ [0] rfl (by decide) (Bs' := [moB Y mo M]) rfl rfl 0 0 rfl rfl rfl rfl (Nat.le_of_ble_eq_true rfl) dX8_link_2 ⟨Nat.zero_le _, Nat.zero_le _⟩ ?_
  refine j_if_ne cx (pc := 5) (tgt := 10) dX8_link_5 (by decide) (fun c5_1 => ?_) (fun c5_1 => ?_)
  · skip
    refine j_iload_n cx (pc := 10) dX8_link_10 2 rfl ?_
    refine j_iconst cx (pc := 11) (v := (nI 0)) dX8_link_11 (by decide) ?_
    refine j_bipush cx (pc := 12) (v := (nI 12)) dX8_link_12 (by decide) ?_
    refine j_calls cx (pc := 14) 3 (c_X8_within l D Y what (nI 0) (nI 12) ) gX8_link_X8_within rfl (by decide +kernel) rfl ⟨Nat.le_of_ble_eq_true rfl, Nat.le_of_ble_eq_true rfl⟩ rfl (Nat.le_of_ble_eq_true rfl) dX8_link_14 ⟨Nat.zero_le _, Nat.zero_le _⟩ ?_
    refine j_if_eq cx (pc := 17) (tgt := 29) dX8_link_17 (by decide) (fun c17_2 => ?_) (fun c17_2 => ?_)
    · skip
      refine j_bipush cx (pc := 29) (v := (-2)) dX8_link_29 (by decide) ?_
      subst hQ; exact j_iret cx hr (by simp only [C8_link, if_neg c5_1, if_pos c17_2]) rfl hA dX8_link_31
    · skip
      have hst7 : tN (M 1 3) < 7 := inL hst
      have hlc : ¬ C8_within link (nI 0) (nI (tN (M 1 3))) = 0 := by rw [← inN hst]; exact c5_1
      obtain ⟨lk, hlk⟩ : ∃ z : Nat, z = tN link := ⟨_, rfl⟩
      have lk0 := wi_ok (a := 0) (b := tN (M 1 3)) (by decide) (by first | decide | omega) hlc
      have lk1 : link = nI lk := by rw [hlk]; exact lk0.1
      have lk2 : 0 ≤ lk ∧ lk ≤ tN (M 1 3) := by rw [hlk]; exact ⟨lk0.2.1, lk0.2.2⟩
      obtain ⟨wh, hwh⟩ : ∃ z : Nat, z = tN what := ⟨_, rfl⟩
      have wh0 := wi_ok (a := 0) (b := 12) (by decide) (by first | decide | omega) c17_2
      have wh1 : what = nI wh := by rw [hwh]; exact wh0.1
      have wh2 : 0 ≤ wh ∧ wh ≤ 12 := by rw [hwh]; exact ⟨wh0.2.1, wh0.2.2⟩
      refine j_aload_n cx (pc := 20) dX8_link_20 0 rfl ?_
      refine j_iload_n cx (pc := 21) dX8_link_21 1 rfl ?_
      refine j_top (show link = (nI lk) from lk1) ?_
      refine j_iload_n cx (pc := 22) dX8_link_22 2 rfl ?_
      refine j_top (show what = (nI wh) from wh1) ?_
      refine j_calli cx (pc := 23) 2 (c_X8_tellsLink l D Y mo M lk wh (by omega) (by omega)) gX8_link_X8_tellsLink rfl (by decide +kernel) rfl ⟨Nat.le_of_ble_eq_true rfl, Nat.le_of_ble_eq_true rfl⟩ [0] rfl (by decide) (Bs' := [moB Y mo M]) rfl rfl 0 0 rfl rfl rfl rfl (Nat.le_of_ble_eq_true rfl) dX8_link_23 ⟨Nat.zero_le _, Nat.zero_le _⟩ ?_
      refine j_goto cx (pc := 26) (tgt := 31) dX8_link_26 (by decide) ?_
      subst hQ; exact j_iret cx hr (by subst hwh; subst hlk; simp only [C8_link, if_neg c5_1, if_neg c17_2]) rfl hA dX8_link_31
  · skip
    refine j_iconst cx (pc := 8) (v := (-1)) dX8_link_8 (by decide) ?_
    subst hQ; exact j_iret cx hr (by simp only [C8_link, if_pos c5_1]) rfl hA dX8_link_9
def C8_stage (M : Nat → Nat → Int32) (stage : Int32) : Int32 :=
  if (C8_within stage (nI 0) (nI ((tN (M 1 3)) - 1))) = 0 then
    (-1)
  else
    let sg := tN stage
    if (M 1 (97 + sg)) = (nI 1) then
      (M 1 (103 + sg))
    else
      (-5)
set_option maxHeartbeats 4000000 in
set_option maxRecDepth 100000 in
theorem c_X8_stage (l : Launch) (D : va_G) (Y : Nat → ClassId) (mo : Nat → Nat) (M : Nat → Nat → Int32) (stage : Int32) (hst : vp_in (M 1 3) 7) (hst1 : 1 ≤ tN (M 1 3)) : CtI l yX8_stage wsX8_stage 1 22 D (tyL Y) ([moB Y mo M]) [.ref (mo 0), .int stage] (C8_stage M stage) ([moB Y mo M]) := by
  refine CtI.intro (own := RX8) (cc := cX8_stage) (maxL := 2) rfl (by decide +kernel) rfl (Nat.le_of_ble_eq_true rfl) (fun p e s m args below meth c A Q hA hQ cx hr => ?_)
  have hinX8 : ∀ w ∈ wsX80, w ∈ wsX8_stage := by decide +kernel
  have f7 : Cond.fieldLink RX8 7 "FourPhasesModel" "state" "[I" ∈ wsX8_stage := by decide +kernel
  have hst7 : tN (M 1 3) < 7 := inL hst
  refine j_iload_n cx (pc := 0) dX8_stage_0 1 rfl ?_
  refine j_iconst cx (pc := 1) (v := (nI 0)) dX8_stage_1 (by decide) ?_
  refine j_aload_n cx (pc := 2) dX8_stage_2 0 rfl ?_
  refine j_get cx (pc := 3) 0 0 rfl rfl (C := RX8) (T := TX8) (N := 12) rfl hinX8 0 (by decide) f7 rfl (v := .ref (mo 1)) rfl dX8_stage_3 ?_
  refine j_iconst cx (pc := 6) (v := (nI 3)) dX8_stage_6 (by decide) ?_
  refine j_iald cx (pc := 7) 0 1 0 rfl rfl rfl (by decide) (by decide) dX8_stage_7 ?_
  refine j_top (show (M 1 3) = (nI (tN (M 1 3))) from inN hst) ?_
  refine j_iconst cx (pc := 8) (v := (nI 1)) dX8_stage_8 (by decide) ?_
  refine j_isubN cx (pc := 9) (by omega) dX8_stage_9 ?_
  refine j_calls cx (pc := 10) 3 (c_X8_within l D Y stage (nI 0) (nI ((tN (M 1 3)) - 1)) ) gX8_stage_X8_within rfl (by decide +kernel) rfl ⟨Nat.le_of_ble_eq_true rfl, Nat.le_of_ble_eq_true rfl⟩ rfl (Nat.le_of_ble_eq_true rfl) dX8_stage_10 ⟨Nat.zero_le _, Nat.zero_le _⟩ ?_
  refine j_if_ne cx (pc := 13) (tgt := 18) dX8_stage_13 (by decide) (fun c13_1 => ?_) (fun c13_1 => ?_)
  · skip
    obtain ⟨sg, hsg⟩ : ∃ z : Nat, z = tN stage := ⟨_, rfl⟩
    have sg0 := wi_ok (a := 0) (b := (tN (M 1 3) - 1)) (by decide) (by first | decide | omega) c13_1
    have sg1 : stage = nI sg := by rw [hsg]; exact sg0.1
    have sg2 : 0 ≤ sg ∧ sg ≤ (tN (M 1 3) - 1) := by rw [hsg]; exact ⟨sg0.2.1, sg0.2.2⟩
    refine j_aload_n cx (pc := 18) dX8_stage_18 0 rfl ?_
    refine j_get cx (pc := 19) 0 0 rfl rfl (C := RX8) (T := TX8) (N := 12) rfl hinX8 0 (by decide) f7 rfl (v := .ref (mo 1)) rfl dX8_stage_19 ?_
    refine j_bipush cx (pc := 22) (v := (nI 97)) dX8_stage_22 (by decide) ?_
    refine j_iload_n cx (pc := 24) dX8_stage_24 1 rfl ?_
    refine j_top (show stage = (nI sg) from sg1) ?_
    refine j_iaddN cx (pc := 25) dX8_stage_25 ?_
    refine j_iald cx (pc := 26) 0 1 0 rfl rfl rfl (by omega) (by decide) dX8_stage_26 ?_
    refine j_iconst cx (pc := 27) (v := (nI 1)) dX8_stage_27 (by decide) ?_
    refine j_icmp_ne cx (pc := 28) (tgt := 43) dX8_stage_28 (by decide) (fun c28_2 => ?_) (fun c28_2 => ?_)
    · skip
      refine j_bipush cx (pc := 43) (v := (-5)) dX8_stage_43 (by decide) ?_
      subst hQ; exact j_iret cx hr (by subst hsg; simp only [C8_stage, if_neg c13_1, if_neg c28_2]) rfl hA dX8_stage_45
    · skip
      refine j_aload_n cx (pc := 31) dX8_stage_31 0 rfl ?_
      refine j_get cx (pc := 32) 0 0 rfl rfl (C := RX8) (T := TX8) (N := 12) rfl hinX8 0 (by decide) f7 rfl (v := .ref (mo 1)) rfl dX8_stage_32 ?_
      refine j_bipush cx (pc := 35) (v := (nI 103)) dX8_stage_35 (by decide) ?_
      refine j_iload_n cx (pc := 37) dX8_stage_37 1 rfl ?_
      refine j_top (show stage = (nI sg) from sg1) ?_
      refine j_iaddN cx (pc := 38) dX8_stage_38 ?_
      refine j_iald cx (pc := 39) 0 1 0 rfl rfl rfl (by omega) (by decide) dX8_stage_39 ?_
      refine j_goto cx (pc := 40) (tgt := 45) dX8_stage_40 (by decide) ?_
      subst hQ; exact j_iret cx hr (by subst hsg; simp only [C8_stage, if_neg c13_1, if_pos c28_2]) rfl hA dX8_stage_45
  · skip
    refine j_iconst cx (pc := 16) (v := (-1)) dX8_stage_16 (by decide) ?_
    subst hQ; exact j_iret cx hr (by simp only [C8_stage, if_pos c13_1]) rfl hA dX8_stage_17
def C8_waiting (M : Nat → Nat → Int32) (sender : Int32) (place : Int32) : Int32 :=
  if (C8_isSender sender) = 0 then
    (-1)
  else
    if 0 ≤ place then
      let sn := tN sender
      if (tN (M 1 (11 + sn))) ≤ (tN place) then
        (-5)
      else
        (M 1 ((109 + (20 * sn)) + (tN place)))
    else
      (-2)
set_option maxHeartbeats 4000000 in
set_option maxRecDepth 100000 in
theorem c_X8_waiting (l : Launch) (D : va_G) (Y : Nat → ClassId) (mo : Nat → Nat) (M : Nat → Nat → Int32) (sender : Int32) (place : Int32) (hm0 : vp_in (M 1 11) 21) (hm1 : vp_in (M 1 12) 21) : CtI l yX8_waiting wsX8_waiting 2 42 D (tyL Y) ([moB Y mo M]) [.ref (mo 0), .int sender, .int place] (C8_waiting M sender place) ([moB Y mo M]) := by
  refine CtI.intro (own := RX8) (cc := cX8_waiting) (maxL := 3) rfl (by decide +kernel) rfl (Nat.le_of_ble_eq_true rfl) (fun p e s m args below meth c A Q hA hQ cx hr => ?_)
  have hinX8 : ∀ w ∈ wsX80, w ∈ wsX8_waiting := by decide +kernel
  have f7 : Cond.fieldLink RX8 7 "FourPhasesModel" "state" "[I" ∈ wsX8_waiting := by decide +kernel
  refine j_iload_n cx (pc := 0) dX8_waiting_0 1 rfl ?_
  refine j_calls cx (pc := 1) 1 (c_X8_isSender l D Y sender ) gX8_waiting_X8_isSender rfl (by decide +kernel) rfl ⟨Nat.le_of_ble_eq_true rfl, Nat.le_of_ble_eq_true rfl⟩ rfl (Nat.le_of_ble_eq_true rfl) dX8_waiting_1 ⟨Nat.zero_le _, Nat.zero_le _⟩ ?_
  refine j_if_ne cx (pc := 4) (tgt := 9) dX8_waiting_4 (by decide) (fun c4_1 => ?_) (fun c4_1 => ?_)
  · skip
    refine j_iload_n cx (pc := 9) dX8_waiting_9 2 rfl ?_
    refine j_if_ge cx (pc := 10) (tgt := 16) dX8_waiting_10 (by decide) (fun c10_2 => ?_) (fun c10_2 => ?_)
    · skip
      obtain ⟨sn, hsn⟩ : ∃ z : Nat, z = tN sender := ⟨_, rfl⟩
      have sn0 := wi_ok (a := 0) (b := 1) (by decide) (by first | decide | omega) c4_1
      have sn1 : sender = nI sn := by rw [hsn]; exact sn0.1
      have sn2 : 0 ≤ sn ∧ sn ≤ 1 := by rw [hsn]; exact ⟨sn0.2.1, sn0.2.2⟩
      have sn3 : vp_in (M 1 (11 + sn)) 21 := mm_ok hm0 hm1 (by omega)
      have sn4 : tN (M 1 (11 + sn)) < 21 := inL sn3
      have hp : place = nI (tN place) := inG (Int32.not_lt.mpr c10_2)
      have hp31 : tN place < 2 ^ 31 := tN_lt _
      refine j_iload_n cx (pc := 16) dX8_waiting_16 2 rfl ?_
      refine j_top (show place = (nI (tN place)) from hp) ?_
      refine j_aload_n cx (pc := 17) dX8_waiting_17 0 rfl ?_
      refine j_get cx (pc := 18) 0 0 rfl rfl (C := RX8) (T := TX8) (N := 12) rfl hinX8 0 (by decide) f7 rfl (v := .ref (mo 1)) rfl dX8_waiting_18 ?_
      refine j_bipush cx (pc := 21) (v := (nI 11)) dX8_waiting_21 (by decide) ?_
      refine j_iload_n cx (pc := 23) dX8_waiting_23 1 rfl ?_
      refine j_top (show sender = (nI sn) from sn1) ?_
      refine j_iaddN cx (pc := 24) dX8_waiting_24 ?_
      refine j_iald cx (pc := 25) 0 1 0 rfl rfl rfl (by omega) (by decide) dX8_waiting_25 ?_
      refine j_top (show (M 1 (11 + sn)) = (nI (tN (M 1 (11 + sn)))) from inN sn3) ?_
      refine j_icmpN_ge cx (pc := 26) (by omega) (by omega) (tgt := 46) dX8_waiting_26 (by decide) (fun c26_3 => ?_) (fun c26_3 => ?_)
      · skip
        refine j_bipush cx (pc := 46) (v := (-5)) dX8_waiting_46 (by decide) ?_
        subst hQ; exact j_iret cx hr (by subst hsn; simp only [C8_waiting, if_neg c4_1, if_pos c10_2, if_pos c26_3]) rfl hA dX8_waiting_48
      · skip
        refine j_aload_n cx (pc := 29) dX8_waiting_29 0 rfl ?_
        refine j_get cx (pc := 30) 0 0 rfl rfl (C := RX8) (T := TX8) (N := 12) rfl hinX8 0 (by decide) f7 rfl (v := .ref (mo 1)) rfl dX8_waiting_30 ?_
        refine j_bipush cx (pc := 33) (v := (nI 109)) dX8_waiting_33 (by decide) ?_
        refine j_bipush cx (pc := 35) (v := (nI 20)) dX8_waiting_35 (by decide) ?_
        refine j_iload_n cx (pc := 37) dX8_waiting_37 1 rfl ?_
        refine j_top (show sender = (nI sn) from sn1) ?_
        refine j_imulN cx (pc := 38) dX8_waiting_38 ?_
        refine j_iaddN cx (pc := 39) dX8_waiting_39 ?_
        refine j_iload_n cx (pc := 40) dX8_waiting_40 2 rfl ?_
        refine j_top (show place = (nI (tN place)) from hp) ?_
        refine j_iaddN cx (pc := 41) dX8_waiting_41 ?_
        refine j_iald cx (pc := 42) 0 1 0 rfl rfl rfl (by omega) (by decide) dX8_waiting_42 ?_
        refine j_goto cx (pc := 43) (tgt := 48) dX8_waiting_43 (by decide) ?_
        subst hQ; exact j_iret cx hr (by subst hsn; simp only [C8_waiting, if_neg c4_1, if_pos c10_2, if_neg (Nat.not_le.mpr c26_3)]) rfl hA dX8_waiting_48
    · skip
      refine j_bipush cx (pc := 13) (v := (-2)) dX8_waiting_13 (by decide) ?_
      subst hQ; exact j_iret cx hr (by simp only [C8_waiting, if_neg c4_1, if_neg c10_2]) rfl hA dX8_waiting_15
  · skip
    refine j_iconst cx (pc := 7) (v := (-1)) dX8_waiting_7 (by decide) ?_
    subst hQ; exact j_iret cx hr (by simp only [C8_waiting, if_pos c4_1]) rfl hA dX8_waiting_8
def C8_noted (M : Nat → Nat → Int32) (rank : Int32) (what : Int32) : Int32 :=
  if rank < 0 then
    (-2)
  else
    if (C8_within what (nI 0) (nI 2)) = 0 then
      (-2)
    else
      let wh := tN what
      if 50 ≤ (tN rank) then
        (-5)
      else
        if (M 1 5) ≤ (nI (tN rank)) then
          (-5)
        else
          (M 1 ((169 + (3 * (tN rank))) + wh))
set_option maxHeartbeats 4000000 in
set_option maxRecDepth 100000 in
theorem c_X8_noted (l : Launch) (D : va_G) (Y : Nat → ClassId) (mo : Nat → Nat) (M : Nat → Nat → Int32) (rank : Int32) (what : Int32)  : CtI l yX8_noted wsX8_noted 1 22 D (tyL Y) ([moB Y mo M]) [.ref (mo 0), .int rank, .int what] (C8_noted M rank what) ([moB Y mo M]) := by
  refine CtI.intro (own := RX8) (cc := cX8_noted) (maxL := 3) rfl (by decide +kernel) rfl (Nat.le_of_ble_eq_true rfl) (fun p e s m args below meth c A Q hA hQ cx hr => ?_)
  have hinX8 : ∀ w ∈ wsX80, w ∈ wsX8_noted := by decide +kernel
  have f7 : Cond.fieldLink RX8 7 "FourPhasesModel" "state" "[I" ∈ wsX8_noted := by decide +kernel
  refine j_iload_n cx (pc := 0) dX8_noted_0 1 rfl ?_
  refine j_if_lt cx (pc := 1) (tgt := 13) dX8_noted_1 (by decide) (fun c1_1 => ?_) (fun c1_1 => ?_)
  · skip
    refine j_bipush cx (pc := 13) (v := (-2)) dX8_noted_13 (by decide) ?_
    subst hQ; exact j_iret cx hr (by simp only [C8_noted, if_pos c1_1]) rfl hA dX8_noted_15
  · skip
    refine j_iload_n cx (pc := 4) dX8_noted_4 2 rfl ?_
    refine j_iconst cx (pc := 5) (v := (nI 0)) dX8_noted_5 (by decide) ?_
    refine j_iconst cx (pc := 6) (v := (nI 2)) dX8_noted_6 (by decide) ?_
    refine j_calls cx (pc := 7) 3 (c_X8_within l D Y what (nI 0) (nI 2) ) gX8_noted_X8_within rfl (by decide +kernel) rfl ⟨Nat.le_of_ble_eq_true rfl, Nat.le_of_ble_eq_true rfl⟩ rfl (Nat.le_of_ble_eq_true rfl) dX8_noted_7 ⟨Nat.zero_le _, Nat.zero_le _⟩ ?_
    refine j_if_ne cx (pc := 10) (tgt := 16) dX8_noted_10 (by decide) (fun c10_2 => ?_) (fun c10_2 => ?_)
    · skip
      obtain ⟨wh, hwh⟩ : ∃ z : Nat, z = tN what := ⟨_, rfl⟩
      have wh0 := wi_ok (a := 0) (b := 2) (by decide) (by first | decide | omega) c10_2
      have wh1 : what = nI wh := by rw [hwh]; exact wh0.1
      have wh2 : 0 ≤ wh ∧ wh ≤ 2 := by rw [hwh]; exact ⟨wh0.2.1, wh0.2.2⟩
      have hp : rank = nI (tN rank) := inG c1_1
      have hp31 : tN rank < 2 ^ 31 := tN_lt _
      refine j_iload_n cx (pc := 16) dX8_noted_16 1 rfl ?_
      refine j_top (show rank = (nI (tN rank)) from hp) ?_
      refine j_bipush cx (pc := 17) (v := (nI 50)) dX8_noted_17 (by decide) ?_
      refine j_icmpN_ge cx (pc := 19) (by omega) (by decide) (tgt := 49) dX8_noted_19 (by decide) (fun c19_3 => ?_) (fun c19_3 => ?_)
      · skip
        refine j_bipush cx (pc := 49) (v := (-5)) dX8_noted_49 (by decide) ?_
        subst hQ; exact j_iret cx hr (by subst hwh; simp only [C8_noted, if_neg c1_1, if_neg c10_2, if_pos c19_3]) rfl hA dX8_noted_51
      · skip
        refine j_iload_n cx (pc := 22) dX8_noted_22 1 rfl ?_
        refine j_top (show rank = (nI (tN rank)) from hp) ?_
        refine j_aload_n cx (pc := 23) dX8_noted_23 0 rfl ?_
        refine j_get cx (pc := 24) 0 0 rfl rfl (C := RX8) (T := TX8) (N := 12) rfl hinX8 0 (by decide) f7 rfl (v := .ref (mo 1)) rfl dX8_noted_24 ?_
        refine j_iconst cx (pc := 27) (v := (nI 5)) dX8_noted_27 (by decide) ?_
        refine j_iald cx (pc := 28) 0 1 0 rfl rfl rfl (by decide) (by decide) dX8_noted_28 ?_
        refine j_icmp_ge cx (pc := 29) (tgt := 49) dX8_noted_29 (by decide) (fun c29_4 => ?_) (fun c29_4 => ?_)
        · skip
          refine j_bipush cx (pc := 49) (v := (-5)) dX8_noted_49 (by decide) ?_
          subst hQ; exact j_iret cx hr (by subst hwh; simp only [C8_noted, if_neg c1_1, if_neg c10_2, if_neg (Nat.not_le.mpr c19_3), if_pos c29_4]) rfl hA dX8_noted_51
        · skip
          refine j_aload_n cx (pc := 32) dX8_noted_32 0 rfl ?_
          refine j_get cx (pc := 33) 0 0 rfl rfl (C := RX8) (T := TX8) (N := 12) rfl hinX8 0 (by decide) f7 rfl (v := .ref (mo 1)) rfl dX8_noted_33 ?_
          refine j_sipush cx (pc := 36) (v := (nI 169)) dX8_noted_36 (by decide) ?_
          refine j_iconst cx (pc := 39) (v := (nI 3)) dX8_noted_39 (by decide) ?_
          refine j_iload_n cx (pc := 40) dX8_noted_40 1 rfl ?_
          refine j_top (show rank = (nI (tN rank)) from hp) ?_
          refine j_imulN cx (pc := 41) dX8_noted_41 ?_
          refine j_iaddN cx (pc := 42) dX8_noted_42 ?_
          refine j_iload_n cx (pc := 43) dX8_noted_43 2 rfl ?_
          refine j_top (show what = (nI wh) from wh1) ?_
          refine j_iaddN cx (pc := 44) dX8_noted_44 ?_
          refine j_iald cx (pc := 45) 0 1 0 rfl rfl rfl (by omega) (by decide) dX8_noted_45 ?_
          refine j_goto cx (pc := 46) (tgt := 51) dX8_noted_46 (by decide) ?_
          subst hQ; exact j_iret cx hr (by subst hwh; simp only [C8_noted, if_neg c1_1, if_neg c10_2, if_neg (Nat.not_le.mpr c19_3), if_neg c29_4]) rfl hA dX8_noted_51
    · skip
      refine j_bipush cx (pc := 13) (v := (-2)) dX8_noted_13 (by decide) ?_
      subst hQ; exact j_iret cx hr (by simp only [C8_noted, if_neg c1_1, if_pos c10_2]) rfl hA dX8_noted_15
def C8_total (M : Nat → Nat → Int32) (what : Int32) : Int32 :=
  if what = nI 0 then
    (M 1 3)
  else
    if what = nI 1 then
      (M 1 4)
    else
      if what = nI 2 then
        ((M 1 11) + (M 1 12))
      else
        if what = nI 3 then
          (C8_fullStages M )
        else
          if what = nI 4 then
            (M 1 10)
          else
            if what = nI 5 then
              (M 1 90)
            else
              if what = nI 6 then
                (M 1 5)
              else
                if what = nI 7 then
                  (M 1 6)
                else
                  if what = nI 8 then
                    (M 1 7)
                  else
                    if what = nI 9 then
                      (M 1 8)
                    else
                      if what = nI 10 then
                        (M 1 0)
                      else
                        if what = nI 11 then
                          (M 1 1)
                        else
                          if what = nI 12 then
                            (M 1 2)
                          else
                            if what = nI 13 then
                              (M 0 0)
                            else
                              if what = nI 14 then
                                (M 0 2)
                              else
                                (-2)
set_option maxHeartbeats 4000000 in
set_option maxRecDepth 100000 in
theorem c_X8_total (l : Launch) (D : va_G) (Y : Nat → ClassId) (mo : Nat → Nat) (M : Nat → Nat → Int32) (what : Int32)  : CtI l yX8_total wsX8_total 1 22 D (tyL Y) ([moB Y mo M]) [.ref (mo 0), .int what] (C8_total M what) ([moB Y mo M]) := by
  refine CtI.intro (own := RX8) (cc := cX8_total) (maxL := 2) rfl (by decide +kernel) rfl (Nat.le_of_ble_eq_true rfl) (fun p e s m args below meth c A Q hA hQ cx hr => ?_)
  have hinX8 : ∀ w ∈ wsX80, w ∈ wsX8_total := by decide +kernel
  have f7 : Cond.fieldLink RX8 7 "FourPhasesModel" "state" "[I" ∈ wsX8_total := by decide +kernel
  have f33 : Cond.fieldLink RX8 33 "FourPhasesModel" "states" "I" ∈ wsX8_total := by decide +kernel
  have f131 : Cond.fieldLink RX8 131 "FourPhasesModel" "length" "I" ∈ wsX8_total := by decide +kernel
  refine j_iload_n cx (pc := 0) dX8_total_0 1 rfl ?_
  by_cases s1_1 : what = nI 0
  · skip
    refine j_tableIn cx (pc := 1) dX8_total_1 (by rw [s1_1]; decide) (by rw [s1_1]; decide) (off := 75) (by rw [s1_1]; decide) (tgt := 76) (by decide) ?_
    refine j_aload_n cx (pc := 76) dX8_total_76 0 rfl ?_
    refine j_get cx (pc := 77) 0 0 rfl rfl (C := RX8) (T := TX8) (N := 12) rfl hinX8 0 (by decide) f7 rfl (v := .ref (mo 1)) rfl dX8_total_77 ?_
    refine j_iconst cx (pc := 80) (v := (nI 3)) dX8_total_80 (by decide) ?_
    refine j_iald cx (pc := 81) 0 1 0 rfl rfl rfl (by decide) (by decide) dX8_total_81 ?_
    subst hQ; exact j_iret cx hr (by simp only [C8_total, if_pos s1_1]) rfl hA dX8_total_82
  by_cases s1_2 : what = nI 1
  · skip
    refine j_tableIn cx (pc := 1) dX8_total_1 (by rw [s1_2]; decide) (by rw [s1_2]; decide) (off := 82) (by rw [s1_2]; decide) (tgt := 83) (by decide) ?_
    refine j_aload_n cx (pc := 83) dX8_total_83 0 rfl ?_
    refine j_get cx (pc := 84) 0 0 rfl rfl (C := RX8) (T := TX8) (N := 12) rfl hinX8 0 (by decide) f7 rfl (v := .ref (mo 1)) rfl dX8_total_84 ?_
    refine j_iconst cx (pc := 87) (v := (nI 4)) dX8_total_87 (by decide) ?_
    refine j_iald cx (pc := 88) 0 1 0 rfl rfl rfl (by decide) (by decide) dX8_total_88 ?_
    subst hQ; exact j_iret cx hr (by simp only [C8_total, if_neg s1_1, if_pos s1_2]) rfl hA dX8_total_89
  by_cases s1_3 : what = nI 2
  · skip
    refine j_tableIn cx (pc := 1) dX8_total_1 (by rw [s1_3]; decide) (by rw [s1_3]; decide) (off := 89) (by rw [s1_3]; decide) (tgt := 90) (by decide) ?_
    refine j_aload_n cx (pc := 90) dX8_total_90 0 rfl ?_
    refine j_get cx (pc := 91) 0 0 rfl rfl (C := RX8) (T := TX8) (N := 12) rfl hinX8 0 (by decide) f7 rfl (v := .ref (mo 1)) rfl dX8_total_91 ?_
    refine j_bipush cx (pc := 94) (v := (nI 11)) dX8_total_94 (by decide) ?_
    refine j_iald cx (pc := 96) 0 1 0 rfl rfl rfl (by decide) (by decide) dX8_total_96 ?_
    refine j_aload_n cx (pc := 97) dX8_total_97 0 rfl ?_
    refine j_get cx (pc := 98) 0 0 rfl rfl (C := RX8) (T := TX8) (N := 12) rfl hinX8 0 (by decide) f7 rfl (v := .ref (mo 1)) rfl dX8_total_98 ?_
    refine j_bipush cx (pc := 101) (v := (nI 12)) dX8_total_101 (by decide) ?_
    refine j_iald cx (pc := 103) 0 1 0 rfl rfl rfl (by decide) (by decide) dX8_total_103 ?_
    refine j_iadd cx (pc := 104) dX8_total_104 ?_
    subst hQ; exact j_iret cx hr (by simp only [C8_total, if_neg s1_1, if_neg s1_2, if_pos s1_3]) rfl hA dX8_total_105
  by_cases s1_4 : what = nI 3
  · skip
    refine j_tableIn cx (pc := 1) dX8_total_1 (by rw [s1_4]; decide) (by rw [s1_4]; decide) (off := 105) (by rw [s1_4]; decide) (tgt := 106) (by decide) ?_
    refine j_aload_n cx (pc := 106) dX8_total_106 0 rfl ?_
    refine j_calli cx (pc := 107) 0 (c_X8_fullStages l D Y mo M  ) gX8_total_X8_fullStages rfl (by decide +kernel) rfl ⟨Nat.le_of_ble_eq_true rfl, Nat.le_of_ble_eq_true rfl⟩ [0] rfl (by decide) (Bs' := [moB Y mo M]) rfl rfl 0 0 rfl rfl rfl rfl (Nat.le_of_ble_eq_true rfl) dX8_total_107 ⟨Nat.zero_le _, Nat.zero_le _⟩ ?_
    subst hQ; exact j_iret cx hr (by simp only [C8_total, if_neg s1_1, if_neg s1_2, if_neg s1_3, if_pos s1_4]) rfl hA dX8_total_110
  by_cases s1_5 : what = nI 4
  · skip
    refine j_tableIn cx (pc := 1) dX8_total_1 (by rw [s1_5]; decide) (by rw [s1_5]; decide) (off := 110) (by rw [s1_5]; decide) (tgt := 111) (by decide) ?_
    refine j_aload_n cx (pc := 111) dX8_total_111 0 rfl ?_
    refine j_get cx (pc := 112) 0 0 rfl rfl (C := RX8) (T := TX8) (N := 12) rfl hinX8 0 (by decide) f7 rfl (v := .ref (mo 1)) rfl dX8_total_112 ?_
    refine j_bipush cx (pc := 115) (v := (nI 10)) dX8_total_115 (by decide) ?_
    refine j_iald cx (pc := 117) 0 1 0 rfl rfl rfl (by decide) (by decide) dX8_total_117 ?_
    subst hQ; exact j_iret cx hr (by simp only [C8_total, if_neg s1_1, if_neg s1_2, if_neg s1_3, if_neg s1_4, if_pos s1_5]) rfl hA dX8_total_118
  by_cases s1_6 : what = nI 5
  · skip
    refine j_tableIn cx (pc := 1) dX8_total_1 (by rw [s1_6]; decide) (by rw [s1_6]; decide) (off := 118) (by rw [s1_6]; decide) (tgt := 119) (by decide) ?_
    refine j_aload_n cx (pc := 119) dX8_total_119 0 rfl ?_
    refine j_get cx (pc := 120) 0 0 rfl rfl (C := RX8) (T := TX8) (N := 12) rfl hinX8 0 (by decide) f7 rfl (v := .ref (mo 1)) rfl dX8_total_120 ?_
    refine j_bipush cx (pc := 123) (v := (nI 90)) dX8_total_123 (by decide) ?_
    refine j_iald cx (pc := 125) 0 1 0 rfl rfl rfl (by decide) (by decide) dX8_total_125 ?_
    subst hQ; exact j_iret cx hr (by simp only [C8_total, if_neg s1_1, if_neg s1_2, if_neg s1_3, if_neg s1_4, if_neg s1_5, if_pos s1_6]) rfl hA dX8_total_126
  by_cases s1_7 : what = nI 6
  · skip
    refine j_tableIn cx (pc := 1) dX8_total_1 (by rw [s1_7]; decide) (by rw [s1_7]; decide) (off := 126) (by rw [s1_7]; decide) (tgt := 127) (by decide) ?_
    refine j_aload_n cx (pc := 127) dX8_total_127 0 rfl ?_
    refine j_get cx (pc := 128) 0 0 rfl rfl (C := RX8) (T := TX8) (N := 12) rfl hinX8 0 (by decide) f7 rfl (v := .ref (mo 1)) rfl dX8_total_128 ?_
    refine j_iconst cx (pc := 131) (v := (nI 5)) dX8_total_131 (by decide) ?_
    refine j_iald cx (pc := 132) 0 1 0 rfl rfl rfl (by decide) (by decide) dX8_total_132 ?_
    subst hQ; exact j_iret cx hr (by simp only [C8_total, if_neg s1_1, if_neg s1_2, if_neg s1_3, if_neg s1_4, if_neg s1_5, if_neg s1_6, if_pos s1_7]) rfl hA dX8_total_133
  by_cases s1_8 : what = nI 7
  · skip
    refine j_tableIn cx (pc := 1) dX8_total_1 (by rw [s1_8]; decide) (by rw [s1_8]; decide) (off := 133) (by rw [s1_8]; decide) (tgt := 134) (by decide) ?_
    refine j_aload_n cx (pc := 134) dX8_total_134 0 rfl ?_
    refine j_get cx (pc := 135) 0 0 rfl rfl (C := RX8) (T := TX8) (N := 12) rfl hinX8 0 (by decide) f7 rfl (v := .ref (mo 1)) rfl dX8_total_135 ?_
    refine j_bipush cx (pc := 138) (v := (nI 6)) dX8_total_138 (by decide) ?_
    refine j_iald cx (pc := 140) 0 1 0 rfl rfl rfl (by decide) (by decide) dX8_total_140 ?_
    subst hQ; exact j_iret cx hr (by simp only [C8_total, if_neg s1_1, if_neg s1_2, if_neg s1_3, if_neg s1_4, if_neg s1_5, if_neg s1_6, if_neg s1_7, if_pos s1_8]) rfl hA dX8_total_141
  by_cases s1_9 : what = nI 8
  · skip
    refine j_tableIn cx (pc := 1) dX8_total_1 (by rw [s1_9]; decide) (by rw [s1_9]; decide) (off := 141) (by rw [s1_9]; decide) (tgt := 142) (by decide) ?_
    refine j_aload_n cx (pc := 142) dX8_total_142 0 rfl ?_
    refine j_get cx (pc := 143) 0 0 rfl rfl (C := RX8) (T := TX8) (N := 12) rfl hinX8 0 (by decide) f7 rfl (v := .ref (mo 1)) rfl dX8_total_143 ?_
    refine j_bipush cx (pc := 146) (v := (nI 7)) dX8_total_146 (by decide) ?_
    refine j_iald cx (pc := 148) 0 1 0 rfl rfl rfl (by decide) (by decide) dX8_total_148 ?_
    subst hQ; exact j_iret cx hr (by simp only [C8_total, if_neg s1_1, if_neg s1_2, if_neg s1_3, if_neg s1_4, if_neg s1_5, if_neg s1_6, if_neg s1_7, if_neg s1_8, if_pos s1_9]) rfl hA dX8_total_149
  by_cases s1_10 : what = nI 9
  · skip
    refine j_tableIn cx (pc := 1) dX8_total_1 (by rw [s1_10]; decide) (by rw [s1_10]; decide) (off := 149) (by rw [s1_10]; decide) (tgt := 150) (by decide) ?_
    refine j_aload_n cx (pc := 150) dX8_total_150 0 rfl ?_
    refine j_get cx (pc := 151) 0 0 rfl rfl (C := RX8) (T := TX8) (N := 12) rfl hinX8 0 (by decide) f7 rfl (v := .ref (mo 1)) rfl dX8_total_151 ?_
    refine j_bipush cx (pc := 154) (v := (nI 8)) dX8_total_154 (by decide) ?_
    refine j_iald cx (pc := 156) 0 1 0 rfl rfl rfl (by decide) (by decide) dX8_total_156 ?_
    subst hQ; exact j_iret cx hr (by simp only [C8_total, if_neg s1_1, if_neg s1_2, if_neg s1_3, if_neg s1_4, if_neg s1_5, if_neg s1_6, if_neg s1_7, if_neg s1_8, if_neg s1_9, if_pos s1_10]) rfl hA dX8_total_157
  by_cases s1_11 : what = nI 10
  · skip
    refine j_tableIn cx (pc := 1) dX8_total_1 (by rw [s1_11]; decide) (by rw [s1_11]; decide) (off := 157) (by rw [s1_11]; decide) (tgt := 158) (by decide) ?_
    refine j_aload_n cx (pc := 158) dX8_total_158 0 rfl ?_
    refine j_get cx (pc := 159) 0 0 rfl rfl (C := RX8) (T := TX8) (N := 12) rfl hinX8 0 (by decide) f7 rfl (v := .ref (mo 1)) rfl dX8_total_159 ?_
    refine j_iload_n cx (pc := 162) dX8_total_162 1 rfl ?_
    refine j_top (show what = (nI 10) from s1_11) ?_
    refine j_bipush cx (pc := 163) (v := (nI 10)) dX8_total_163 (by decide) ?_
    refine j_isubN cx (pc := 165) (by decide) dX8_total_165 ?_
    refine j_top (show nI (10 - 10) = nI 0 from rfl) ?_
    refine j_iald cx (pc := 166) 0 1 0 rfl rfl rfl (by decide) (by decide) dX8_total_166 ?_
    subst hQ; exact j_iret cx hr (by simp only [C8_total, if_neg s1_1, if_neg s1_2, if_neg s1_3, if_neg s1_4, if_neg s1_5, if_neg s1_6, if_neg s1_7, if_neg s1_8, if_neg s1_9, if_neg s1_10, if_pos s1_11]) rfl hA dX8_total_167
  by_cases s1_12 : what = nI 11
  · skip
    refine j_tableIn cx (pc := 1) dX8_total_1 (by rw [s1_12]; decide) (by rw [s1_12]; decide) (off := 157) (by rw [s1_12]; decide) (tgt := 158) (by decide) ?_
    refine j_aload_n cx (pc := 158) dX8_total_158 0 rfl ?_
    refine j_get cx (pc := 159) 0 0 rfl rfl (C := RX8) (T := TX8) (N := 12) rfl hinX8 0 (by decide) f7 rfl (v := .ref (mo 1)) rfl dX8_total_159 ?_
    refine j_iload_n cx (pc := 162) dX8_total_162 1 rfl ?_
    refine j_top (show what = (nI 11) from s1_12) ?_
    refine j_bipush cx (pc := 163) (v := (nI 10)) dX8_total_163 (by decide) ?_
    refine j_isubN cx (pc := 165) (by decide) dX8_total_165 ?_
    refine j_top (show nI (11 - 10) = nI 1 from rfl) ?_
    refine j_iald cx (pc := 166) 0 1 0 rfl rfl rfl (by decide) (by decide) dX8_total_166 ?_
    subst hQ; exact j_iret cx hr (by simp only [C8_total, if_neg s1_1, if_neg s1_2, if_neg s1_3, if_neg s1_4, if_neg s1_5, if_neg s1_6, if_neg s1_7, if_neg s1_8, if_neg s1_9, if_neg s1_10, if_neg s1_11, if_pos s1_12]) rfl hA dX8_total_167
  by_cases s1_13 : what = nI 12
  · skip
    refine j_tableIn cx (pc := 1) dX8_total_1 (by rw [s1_13]; decide) (by rw [s1_13]; decide) (off := 157) (by rw [s1_13]; decide) (tgt := 158) (by decide) ?_
    refine j_aload_n cx (pc := 158) dX8_total_158 0 rfl ?_
    refine j_get cx (pc := 159) 0 0 rfl rfl (C := RX8) (T := TX8) (N := 12) rfl hinX8 0 (by decide) f7 rfl (v := .ref (mo 1)) rfl dX8_total_159 ?_
    refine j_iload_n cx (pc := 162) dX8_total_162 1 rfl ?_
    refine j_top (show what = (nI 12) from s1_13) ?_
    refine j_bipush cx (pc := 163) (v := (nI 10)) dX8_total_163 (by decide) ?_
    refine j_isubN cx (pc := 165) (by decide) dX8_total_165 ?_
    refine j_top (show nI (12 - 10) = nI 2 from rfl) ?_
    refine j_iald cx (pc := 166) 0 1 0 rfl rfl rfl (by decide) (by decide) dX8_total_166 ?_
    subst hQ; exact j_iret cx hr (by simp only [C8_total, if_neg s1_1, if_neg s1_2, if_neg s1_3, if_neg s1_4, if_neg s1_5, if_neg s1_6, if_neg s1_7, if_neg s1_8, if_neg s1_9, if_neg s1_10, if_neg s1_11, if_neg s1_12, if_pos s1_13]) rfl hA dX8_total_167
  by_cases s1_14 : what = nI 13
  · skip
    refine j_tableIn cx (pc := 1) dX8_total_1 (by rw [s1_14]; decide) (by rw [s1_14]; decide) (off := 167) (by rw [s1_14]; decide) (tgt := 168) (by decide) ?_
    refine j_aload_n cx (pc := 168) dX8_total_168 0 rfl ?_
    refine j_get cx (pc := 169) 0 0 rfl rfl (C := RX8) (T := TX8) (N := 12) rfl hinX8 3 (by decide) f33 rfl (v := .int (M 0 0)) rfl dX8_total_169 ?_
    subst hQ; exact j_iret cx hr (by simp only [C8_total, if_neg s1_1, if_neg s1_2, if_neg s1_3, if_neg s1_4, if_neg s1_5, if_neg s1_6, if_neg s1_7, if_neg s1_8, if_neg s1_9, if_neg s1_10, if_neg s1_11, if_neg s1_12, if_neg s1_13, if_pos s1_14]) rfl hA dX8_total_172
  by_cases s1_15 : what = nI 14
  · skip
    refine j_tableIn cx (pc := 1) dX8_total_1 (by rw [s1_15]; decide) (by rw [s1_15]; decide) (off := 172) (by rw [s1_15]; decide) (tgt := 173) (by decide) ?_
    refine j_aload_n cx (pc := 173) dX8_total_173 0 rfl ?_
    refine j_get cx (pc := 174) 0 0 rfl rfl (C := RX8) (T := TX8) (N := 12) rfl hinX8 7 (by decide) f131 rfl (v := .int (M 0 2)) rfl dX8_total_174 ?_
    subst hQ; exact j_iret cx hr (by simp only [C8_total, if_neg s1_1, if_neg s1_2, if_neg s1_3, if_neg s1_4, if_neg s1_5, if_neg s1_6, if_neg s1_7, if_neg s1_8, if_neg s1_9, if_neg s1_10, if_neg s1_11, if_neg s1_12, if_neg s1_13, if_neg s1_14, if_pos s1_15]) rfl hA dX8_total_177
  refine j_tableOut cx (pc := 1) dX8_total_1 (sw_out 0 14 (by decide) (by intro j h1 h2; rcases (show j = 0 ∨ j = 1 ∨ j = 2 ∨ j = 3 ∨ j = 4 ∨ j = 5 ∨ j = 6 ∨ j = 7 ∨ j = 8 ∨ j = 9 ∨ j = 10 ∨ j = 11 ∨ j = 12 ∨ j = 13 ∨ j = 14 from by omega) with rfl | rfl | rfl | rfl | rfl | rfl | rfl | rfl | rfl | rfl | rfl | rfl | rfl | rfl | rfl <;> assumption)) (tgt := 178) (by decide) ?_
  refine j_bipush cx (pc := 178) (v := (-2)) dX8_total_178 (by decide) ?_
  subst hQ; exact j_iret cx hr (by simp only [C8_total, if_neg s1_1, if_neg s1_2, if_neg s1_3, if_neg s1_4, if_neg s1_5, if_neg s1_6, if_neg s1_7, if_neg s1_8, if_neg s1_9, if_neg s1_10, if_neg s1_11, if_neg s1_12, if_neg s1_13, if_neg s1_14, if_neg s1_15]) rfl hA dX8_total_180
def C8_next (M : Nat → Nat → Int32)  : Int32 :=
  if (C8_nextChange M ) = (-5) then
    (-5)
  else
    (C8_whenOf M (tN (C8_nextChange M )))
set_option maxHeartbeats 4000000 in
set_option maxRecDepth 100000 in
theorem c_X8_next (l : Launch) (D : va_G) (Y : Nat → ClassId) (mo : Nat → Nat) (M : Nat → Nat → Int32)  (hn : vp_in (M 1 10) 100) : CtI l yX8_next wsX8_next 2 43 D (tyL Y) ([moB Y mo M]) [.ref (mo 0)] (C8_next M ) ([moB Y mo M]) := by
  refine CtI.intro (own := RX8) (cc := cX8_next) (maxL := 2) rfl (by decide +kernel) rfl (Nat.le_of_ble_eq_true rfl) (fun p e s m args below meth c A Q hA hQ cx hr => ?_)
  refine j_aload_n cx (pc := 0) dX8_next_0 0 rfl ?_
  refine j_calli cx (pc := 1) 0 (c_X8_nextChange l D Y mo M  hn) gX8_next_X8_nextChange rfl (by decide +kernel) rfl ⟨Nat.le_of_ble_eq_true rfl, Nat.le_of_ble_eq_true rfl⟩ [0] rfl (by decide) (Bs' := [moB Y mo M]) rfl rfl 0 0 rfl rfl rfl rfl (Nat.le_of_ble_eq_true rfl) dX8_next_1 ⟨Nat.zero_le _, Nat.zero_le _⟩ ?_
  refine j_istore_n cx (pc := 4) (lv' := [(1, .int (C8_nextChange M )), (0, .ref (mo 0))]) dX8_next_4 (by decide) rfl ?_
  refine j_iload_n cx (pc := 5) dX8_next_5 0 rfl ?_
  refine j_bipush cx (pc := 6) (v := (-5)) dX8_next_6 (by decide) ?_
  refine j_icmp_ne cx (pc := 8) (tgt := 16) dX8_next_8 (by decide) (fun c8_1 => ?_) (fun c8_1 => ?_)
  · skip
    have hnx := nx_N c8_1
    have hnx2 := hnx.2
    refine j_aload_n cx (pc := 16) dX8_next_16 1 rfl ?_
    refine j_iload_n cx (pc := 17) dX8_next_17 0 rfl ?_
    refine j_top (show (C8_nextChange M ) = (nI (tN (C8_nextChange M ))) from hnx.1) ?_
    refine j_calli cx (pc := 18) 1 (c_X8_whenOf l D Y mo M (tN (C8_nextChange M )) (by omega)) gX8_next_X8_whenOf rfl (by decide +kernel) rfl ⟨Nat.le_of_ble_eq_true rfl, Nat.le_of_ble_eq_true rfl⟩ [0] rfl (by decide) (Bs' := [moB Y mo M]) rfl rfl 0 0 rfl rfl rfl rfl (Nat.le_of_ble_eq_true rfl) dX8_next_18 ⟨Nat.zero_le _, Nat.zero_le _⟩ ?_
    subst hQ; exact j_iret cx hr (by simp only [C8_next, if_neg c8_1]) rfl hA dX8_next_21
  · skip
    refine j_bipush cx (pc := 11) (v := (-5)) dX8_next_11 (by decide) ?_
    refine j_goto cx (pc := 13) (tgt := 21) dX8_next_13 (by decide) ?_
    subst hQ; exact j_iret cx hr (by simp only [C8_next, if_pos c8_1]) rfl hA dX8_next_21
