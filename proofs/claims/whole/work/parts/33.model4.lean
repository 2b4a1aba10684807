def C8_arrive (M : Nat → Nat → Int32) (change : Nat) : Nat → Nat → Int32 :=
  let V1 := up1 M 1 4 (M 1 ((319 + (4 * change)) + 0))
  let V2 := up1 V1 1 10 ((V1 1 10) - (nI 1))
  let V3 := setC V2 1 (sh4 (V2 1) (319 + (4 * change)) (319 + (4 * (tN (M 1 10) - 1))))
  let V4 := up1 V3 1 7 ((V3 1 7) + (nI 1))
  let lk := tN (M 1 ((319 + (4 * change)) + 1))
  if (M 1 ((319 + (4 * change)) + 2)) = 0 then
    let V7 := (C8_requestArrives V4 lk (M 1 ((319 + (4 * change)) + 3)))
    V7
  else
    if (M 1 ((319 + (4 * change)) + 2)) = (nI 1) then
      let V6 := (C8_answerArrives V4 lk (M 1 ((319 + (4 * change)) + 3)))
      V6
    else
      let V5 := (C8_setEnd V4 lk 5 (M 1 ((319 + (4 * change)) + 3)))
      V5
set_option maxHeartbeats 4000000 in
set_option maxRecDepth 100000 in
theorem c_X8_arrive (l : Launch) (D : va_G) (Y : Nat → ClassId) (mo : Nat → Nat) (M : Nat → Nat → Int32) (change : Nat) (hn : vp_in (M 1 10) 98) (hc : change < tN (M 1 10)) (hst : vp_in (M 1 3) 7) (hpd : vp_in (M 1 9) 20) (hl7 : vp_in (M 1 ((319 + (4 * change)) + 1)) 7) (hle : tN (M 1 ((319 + (4 * change)) + 1)) ≤ tN (M 1 3)) : CtV l yX8_arrive wsX8_arrive 4 96 D (tyL Y) ([moB Y mo M]) [.ref (mo 0), .int (nI change)] ([moB Y mo (C8_arrive M change)]) := by
  refine CtV.intro (own := RX8) (cc := cX8_arrive) (maxL := 7) rfl (by decide +kernel) rfl (Nat.le_of_ble_eq_true rfl) (fun p e s m args below meth c A Q hA hQ cx hr => ?_)
  have hinX8 : ∀ w ∈ wsX80, w ∈ wsX8_arrive := by decide +kernel
  have f7 : Cond.fieldLink RX8 7 "FourPhasesModel" "state" "[I" ∈ wsX8_arrive := by decide +kernel
  have hl98 : tN (M 1 10) < 98 := inL hn
  refine j_sipush cx (pc := 0) (v := (nI 319)) dX8_arrive_0 (by decide) ?_
  refine j_iconst cx (pc := 3) (v := (nI 4)) dX8_arrive_3 (by decide) ?_
  refine j_iload_n cx (pc := 4) dX8_arrive_4 1 rfl ?_
  refine j_imulN cx (pc := 5) dX8_arrive_5 ?_
  refine j_iaddN cx (pc := 6) dX8_arrive_6 ?_
  refine j_istore_n cx (pc := 7) (lv' := [(2, .int (nI (319 + (4 * change)))), (0, .ref (mo 0)), (1, .int (nI change))]) dX8_arrive_7 (by decide) rfl ?_
  refine j_aload_n cx (pc := 8) dX8_arrive_8 1 rfl ?_
  refine j_get cx (pc := 9) 0 0 rfl rfl (C := RX8) (T := TX8) (N := 12) rfl hinX8 0 (by decide) f7 rfl (v := .ref (mo 1)) rfl dX8_arrive_9 ?_
  refine j_iload_n cx (pc := 12) dX8_arrive_12 0 rfl ?_
  refine j_iconst cx (pc := 13) (v := (nI 1)) dX8_arrive_13 (by decide) ?_
  refine j_iaddN cx (pc := 14) dX8_arrive_14 ?_
  refine j_iald cx (pc := 15) 0 1 0 rfl rfl rfl (by omega) (by decide) dX8_arrive_15 ?_
  refine j_istore_n cx (pc := 16) (lv' := [(3, .int (M 1 ((319 + (4 * change)) + 1))), (2, .int (nI (319 + (4 * change)))), (0, .ref (mo 0)), (1, .int (nI change))]) dX8_arrive_16 (by decide) rfl ?_
  refine j_aload_n cx (pc := 17) dX8_arrive_17 2 rfl ?_
  refine j_get cx (pc := 18) 0 0 rfl rfl (C := RX8) (T := TX8) (N := 12) rfl hinX8 0 (by decide) f7 rfl (v := .ref (mo 1)) rfl dX8_arrive_18 ?_
  refine j_iload_n cx (pc := 21) dX8_arrive_21 1 rfl ?_
  refine j_iconst cx (pc := 22) (v := (nI 2)) dX8_arrive_22 (by decide) ?_
  refine j_iaddN cx (pc := 23) dX8_arrive_23 ?_
  refine j_iald cx (pc := 24) 0 1 0 rfl rfl rfl (by omega) (by decide) dX8_arrive_24 ?_
  refine j_istore cx (pc := 25) (lv' := [(4, .int (M 1 ((319 + (4 * change)) + 2))), (3, .int (M 1 ((319 + (4 * change)) + 1))), (2, .int (nI (319 + (4 * change)))), (0, .ref (mo 0)), (1, .int (nI change))]) dX8_arrive_25 (by decide) rfl ?_
  refine j_aload_n cx (pc := 27) dX8_arrive_27 3 rfl ?_
  refine j_get cx (pc := 28) 0 0 rfl rfl (C := RX8) (T := TX8) (N := 12) rfl hinX8 0 (by decide) f7 rfl (v := .ref (mo 1)) rfl dX8_arrive_28 ?_
  refine j_iload_n cx (pc := 31) dX8_arrive_31 2 rfl ?_
  refine j_iconst cx (pc := 32) (v := (nI 3)) dX8_arrive_32 (by decide) ?_
  refine j_iaddN cx (pc := 33) dX8_arrive_33 ?_
  refine j_iald cx (pc := 34) 0 1 0 rfl rfl rfl (by omega) (by decide) dX8_arrive_34 ?_
  refine j_istore cx (pc := 35) (lv' := [(5, .int (M 1 ((319 + (4 * change)) + 3))), (4, .int (M 1 ((319 + (4 * change)) + 2))), (3, .int (M 1 ((319 + (4 * change)) + 1))), (2, .int (nI (319 + (4 * change)))), (0, .ref (mo 0)), (1, .int (nI change))]) dX8_arrive_35 (by decide) rfl ?_
  refine j_aload_n cx (pc := 37) dX8_arrive_37 4 rfl ?_
  refine j_get cx (pc := 38) 0 0 rfl rfl (C := RX8) (T := TX8) (N := 12) rfl hinX8 0 (by decide) f7 rfl (v := .ref (mo 1)) rfl dX8_arrive_38 ?_
  refine j_iconst cx (pc := 41) (v := (nI 4)) dX8_arrive_41 (by decide) ?_
  refine j_aload_n cx (pc := 42) dX8_arrive_42 4 rfl ?_
  refine j_get cx (pc := 43) 0 0 rfl rfl (C := RX8) (T := TX8) (N := 12) rfl hinX8 0 (by decide) f7 rfl (v := .ref (mo 1)) rfl dX8_arrive_43 ?_
  refine j_iload_n cx (pc := 46) dX8_arrive_46 3 rfl ?_
  refine j_iconst cx (pc := 47) (v := (nI 0)) dX8_arrive_47 (by decide) ?_
  refine j_iaddN cx (pc := 48) dX8_arrive_48 ?_
  refine j_iald cx (pc := 49) 0 1 0 rfl rfl rfl (by omega) (by decide) dX8_arrive_49 ?_
  obtain ⟨V1, hV1⟩ : ∃ z, z = up1 M 1 4 (M 1 ((319 + (4 * change)) + 0)) := ⟨_, rfl⟩
  refine j_iast cx (pc := 50) 0 1 0 rfl rfl rfl (by decide) (by decide) (Bs' := [moB Y mo V1]) (by rw [hV1]; rfl) dX8_arrive_50 ?_
  refine j_aload_n cx (pc := 51) dX8_arrive_51 4 rfl ?_
  refine j_get cx (pc := 52) 0 0 rfl rfl (C := RX8) (T := TX8) (N := 12) rfl hinX8 0 (by decide) f7 rfl (v := .ref (mo 1)) rfl dX8_arrive_52 ?_
  refine j_bipush cx (pc := 55) (v := (nI 10)) dX8_arrive_55 (by decide) ?_
  refine j_dup2 cx (pc := 57) dX8_arrive_57 rfl rfl ?_
  refine j_iald cx (pc := 58) 0 1 0 rfl rfl rfl (by decide) (by decide) dX8_arrive_58 ?_
  refine j_iconst cx (pc := 59) (v := (nI 1)) dX8_arrive_59 (by decide) ?_
  refine j_isub cx (pc := 60) dX8_arrive_60 ?_
  obtain ⟨V2, hV2⟩ : ∃ z, z = up1 V1 1 10 ((V1 1 10) - (nI 1)) := ⟨_, rfl⟩
  refine j_iast cx (pc := 61) 0 1 0 rfl rfl rfl (by decide) (by decide) (Bs' := [moB Y mo V2]) (by rw [hV2]; rfl) dX8_arrive_61 ?_
  have e10 : V2 1 10 = nI (tN (M 1 10) - 1) := by rw [hV2, up1_eq, hV1, up1_in (by omega), ← pk_sub (by omega), ← inN hn]
  refine j_iload_n cx (pc := 62) dX8_arrive_62 3 rfl ?_
  refine j_istore cx (pc := 63) (lv' := [(6, .int (nI (319 + (4 * change)))), (5, .int (M 1 ((319 + (4 * change)) + 3))), (4, .int (M 1 ((319 + (4 * change)) + 2))), (3, .int (M 1 ((319 + (4 * change)) + 1))), (2, .int (nI (319 + (4 * change)))), (0, .ref (mo 0)), (1, .int (nI change))]) dX8_arrive_63 (by decide) rfl ?_
  have lp1 : ∀ (n i : Nat), i + n = (319 + (4 * (tN (M 1 10) - 1))) → (319 + (4 * change)) ≤ i → J p l e { frames := 4, cells := 0, slots := 0, locals := 96 } s m args below meth c 7 D A 0 0 Q ([moB Y mo (setC V2 1 (sh4 (V2 1) (319 + (4 * change)) i))]) 65 [(6, .int (nI i)), (5, .int (M 1 ((319 + (4 * change)) + 3))), (4, .int (M 1 ((319 + (4 * change)) + 2))), (3, .int (M 1 ((319 + (4 * change)) + 1))), (2, .int (nI (319 + (4 * change)))), (0, .ref (mo 0)), (1, .int (nI change))] [] := by
    intro n
    induction n with
    | zero =>
      intro i hi h0
      have hi2 : i = (319 + (4 * (tN (M 1 10) - 1))) := by omega
      subst hi2
      obtain ⟨V3, hV3⟩ : ∃ z, z = setC V2 1 (sh4 (V2 1) (319 + (4 * change)) (319 + (4 * (tN (M 1 10) - 1)))) := ⟨_, rfl⟩
      refine j_bs (Bs' := [moB Y mo V3]) (by rw [hV3]) ?_
      refine j_iload cx (pc := 65) dX8_arrive_65 0 rfl ?_
      refine j_sipush cx (pc := 67) (v := (nI 319)) dX8_arrive_67 (by decide) ?_
      refine j_iconst cx (pc := 70) (v := (nI 4)) dX8_arrive_70 (by decide) ?_
      refine j_aload_n cx (pc := 71) dX8_arrive_71 5 rfl ?_
      refine j_get cx (pc := 72) 0 0 rfl rfl (C := RX8) (T := TX8) (N := 12) rfl hinX8 0 (by decide) f7 rfl (v := .ref (mo 1)) rfl dX8_arrive_72 ?_
      refine j_bipush cx (pc := 75) (v := (nI 10)) dX8_arrive_75 (by decide) ?_
      refine j_iald cx (pc := 77) 0 1 0 rfl rfl rfl (by decide) (by decide) dX8_arrive_77 ?_
      refine j_top (show (V3 1 10) = (nI (tN (M 1 10) - 1)) from (by rw [hV3, setC_eq]; show (if _ then _ else _) = _; rw [if_neg (by omega)]; exact e10)) ?_
      refine j_imulN cx (pc := 78) dX8_arrive_78 ?_
      refine j_iaddN cx (pc := 79) dX8_arrive_79 ?_
      refine j_icmpN_ge cx (pc := 80) (by omega) (by omega) (tgt := 105) dX8_arrive_80 (by decide) (fun c80_2 => ?_) (fun c80_2 => by exfalso; omega)
      refine j_aload_n cx (pc := 105) dX8_arrive_105 5 rfl ?_
      refine j_get cx (pc := 106) 0 0 rfl rfl (C := RX8) (T := TX8) (N := 12) rfl hinX8 0 (by decide) f7 rfl (v := .ref (mo 1)) rfl dX8_arrive_106 ?_
      refine j_bipush cx (pc := 109) (v := (nI 7)) dX8_arrive_109 (by decide) ?_
      refine j_dup2 cx (pc := 111) dX8_arrive_111 rfl rfl ?_
      refine j_iald cx (pc := 112) 0 1 0 rfl rfl rfl (by decide) (by decide) dX8_arrive_112 ?_
      refine j_iconst cx (pc := 113) (v := (nI 1)) dX8_arrive_113 (by decide) ?_
      refine j_iadd cx (pc := 114) dX8_arrive_114 ?_
      obtain ⟨V4, hV4⟩ : ∃ z, z = up1 V3 1 7 ((V3 1 7) + (nI 1)) := ⟨_, rfl⟩
      refine j_iast cx (pc := 115) 0 1 0 rfl rfl rfl (by decide) (by decide) (Bs' := [moB Y mo V4]) (by rw [hV4]; rfl) dX8_arrive_115 ?_
      obtain ⟨lk, hlk⟩ : ∃ z : Nat, z = tN (M 1 ((319 + (4 * change)) + 1)) := ⟨_, rfl⟩
      have hlk1 : (M 1 ((319 + (4 * change)) + 1)) = nI lk := by rw [hlk]; exact inN hl7
      have hlk2 : lk < 7 := by rw [hlk]; exact inL hl7
      have g3 : V4 1 3 = M 1 3 := by rw [hV4, up1_in (by omega), hV3, setC_eq]; show (if _ then _ else _) = _; rw [if_neg (by omega), hV2, up1_in (by omega), hV1, up1_in (by omega)]
      have g9 : V4 1 9 = M 1 9 := by rw [hV4, up1_in (by omega), hV3, setC_eq]; show (if _ then _ else _) = _; rw [if_neg (by omega), hV2, up1_in (by omega), hV1, up1_in (by omega)]
      have g10 : V4 1 10 = nI (tN (M 1 10) - 1) := by rw [hV4, up1_in (by omega), hV3, setC_eq]; show (if _ then _ else _) = _; rw [if_neg (by omega)]; exact e10
      have hst2 : vp_in (V4 1 3) 7 := by rw [g3]; exact hst
      have hpd2 : vp_in (V4 1 9) 20 := by rw [g9]; exact hpd
      have hcn2 : vp_in (V4 1 10) 97 := by rw [g10]; exact vp_in_nI (by omega) (by decide)
      have hle2 : lk ≤ tN (V4 1 3) := by rw [g3, hlk]; exact hle
      refine j_iload cx (pc := 116) dX8_arrive_116 2 rfl ?_
      refine j_if_ne cx (pc := 118) (tgt := 131) dX8_arrive_118 (by decide) (fun c118_3 => ?_) (fun c118_3 => ?_)
      · skip
        refine j_iload cx (pc := 131) dX8_arrive_131 2 rfl ?_
        refine j_iconst cx (pc := 133) (v := (nI 1)) dX8_arrive_133 (by decide) ?_
        refine j_icmp_ne cx (pc := 134) (tgt := 147) dX8_arrive_134 (by decide) (fun c134_4 => ?_) (fun c134_4 => ?_)
        · skip
          refine j_aload_n cx (pc := 147) dX8_arrive_147 5 rfl ?_
          refine j_iload_n cx (pc := 148) dX8_arrive_148 3 rfl ?_
          refine j_top (show (M 1 ((319 + (4 * change)) + 1)) = (nI lk) from hlk1) ?_
          refine j_iconst cx (pc := 149) (v := (nI 5)) dX8_arrive_149 (by decide) ?_
          refine j_iload cx (pc := 150) dX8_arrive_150 1 rfl ?_
          obtain ⟨V5, hV5⟩ : ∃ z, z = (C8_setEnd V4 lk 5 (M 1 ((319 + (4 * change)) + 3))) := ⟨_, rfl⟩
          refine j_callv cx (pc := 152) 3 (c_X8_setEnd l D Y mo V4 lk 5 (M 1 ((319 + (4 * change)) + 3)) (by omega) (by omega)) gX8_arrive_X8_setEnd rfl (by decide +kernel) rfl ⟨Nat.le_of_ble_eq_true rfl, Nat.le_of_ble_eq_true rfl⟩ [0] rfl (by decide) (Bs' := [moB Y mo V5]) (by rw [hV5]; exact P1_mo V4 (C8_setEnd V4 lk 5 (M 1 ((319 + (4 * change)) + 3)))) A1_mo 0 0 rfl rfl rfl rfl (Nat.le_of_ble_eq_true rfl) dX8_arrive_152 ⟨Nat.zero_le _, Nat.zero_le _⟩ ?_
          subst hQ; exact j_vret cx hr (by subst hV5; subst hlk; subst hV4; subst hV3; subst hV2; subst hV1; simp only [C8_arrive, if_neg c118_3, if_neg c134_4]) hA dX8_arrive_155
        · skip
          refine j_aload_n cx (pc := 137) dX8_arrive_137 5 rfl ?_
          refine j_iload_n cx (pc := 138) dX8_arrive_138 3 rfl ?_
          refine j_top (show (M 1 ((319 + (4 * change)) + 1)) = (nI lk) from hlk1) ?_
          refine j_iload cx (pc := 139) dX8_arrive_139 1 rfl ?_
          obtain ⟨V6, hV6⟩ : ∃ z, z = (C8_answerArrives V4 lk (M 1 ((319 + (4 * change)) + 3))) := ⟨_, rfl⟩
          refine j_callv cx (pc := 141) 2 (c_X8_answerArrives l D Y mo V4 lk (M 1 ((319 + (4 * change)) + 3)) hlk2 hpd2 hcn2) gX8_arrive_X8_answerArrives rfl (by decide +kernel) rfl ⟨Nat.le_of_ble_eq_true rfl, Nat.le_of_ble_eq_true rfl⟩ [0] rfl (by decide) (Bs' := [moB Y mo V6]) (by rw [hV6]; exact P1_mo V4 (C8_answerArrives V4 lk (M 1 ((319 + (4 * change)) + 3)))) A1_mo 0 0 rfl rfl rfl rfl (Nat.le_of_ble_eq_true rfl) dX8_arrive_141 ⟨Nat.zero_le _, Nat.zero_le _⟩ ?_
          refine j_goto cx (pc := 144) (tgt := 155) dX8_arrive_144 (by decide) ?_
          subst hQ; exact j_vret cx hr (by subst hV6; subst hlk; subst hV4; subst hV3; subst hV2; subst hV1; simp only [C8_arrive, if_neg c118_3, if_pos c134_4]) hA dX8_arrive_155
      · skip
        refine j_aload_n cx (pc := 121) dX8_arrive_121 5 rfl ?_
        refine j_iload_n cx (pc := 122) dX8_arrive_122 3 rfl ?_
        refine j_top (show (M 1 ((319 + (4 * change)) + 1)) = (nI lk) from hlk1) ?_
        refine j_iload cx (pc := 123) dX8_arrive_123 1 rfl ?_
        obtain ⟨V7, hV7⟩ : ∃ z, z = (C8_requestArrives V4 lk (M 1 ((319 + (4 * change)) + 3))) := ⟨_, rfl⟩
        refine j_callv cx (pc := 125) 2 (c_X8_requestArrives l D Y mo V4 lk (M 1 ((319 + (4 * change)) + 3)) hlk2 hst2 hle2 (vp_mono hcn2 (by decide))) gX8_arrive_X8_requestArrives rfl (by decide +kernel) rfl ⟨Nat.le_of_ble_eq_true rfl, Nat.le_of_ble_eq_true rfl⟩ [0] rfl (by decide) (Bs' := [moB Y mo V7]) (by rw [hV7]; exact P1_mo V4 (C8_requestArrives V4 lk (M 1 ((319 + (4 * change)) + 3)))) A1_mo 0 0 rfl rfl rfl rfl (Nat.le_of_ble_eq_true rfl) dX8_arrive_125 ⟨Nat.zero_le _, Nat.zero_le _⟩ ?_
        refine j_goto cx (pc := 128) (tgt := 155) dX8_arrive_128 (by decide) ?_
        subst hQ; exact j_vret cx hr (by subst hV7; subst hlk; subst hV4; subst hV3; subst hV2; subst hV1; simp only [C8_arrive, if_pos c118_3]) hA dX8_arrive_155
    | succ n ih =>
      intro i hi h0
      obtain ⟨V8, hV8⟩ : ∃ z, z = setC V2 1 (sh4 (V2 1) (319 + (4 * change)) i) := ⟨_, rfl⟩
      refine j_bs (Bs' := [moB Y mo V8]) (by rw [hV8]) ?_
      refine j_iload cx (pc := 65) dX8_arrive_65 0 rfl ?_
      refine j_sipush cx (pc := 67) (v := (nI 319)) dX8_arrive_67 (by decide) ?_
      refine j_iconst cx (pc := 70) (v := (nI 4)) dX8_arrive_70 (by decide) ?_
      refine j_aload_n cx (pc := 71) dX8_arrive_71 5 rfl ?_
      refine j_get cx (pc := 72) 0 0 rfl rfl (C := RX8) (T := TX8) (N := 12) rfl hinX8 0 (by decide) f7 rfl (v := .ref (mo 1)) rfl dX8_arrive_72 ?_
      refine j_bipush cx (pc := 75) (v := (nI 10)) dX8_arrive_75 (by decide) ?_
      refine j_iald cx (pc := 77) 0 1 0 rfl rfl rfl (by decide) (by decide) dX8_arrive_77 ?_
      refine j_top (show (V8 1 10) = (nI (tN (M 1 10) - 1)) from (by rw [hV8, setC_eq]; show (if _ then _ else _) = _; rw [if_neg (by omega)]; exact e10)) ?_
      refine j_imulN cx (pc := 78) dX8_arrive_78 ?_
      refine j_iaddN cx (pc := 79) dX8_arrive_79 ?_
      refine j_icmpN_ge cx (pc := 80) (by omega) (by omega) (tgt := 105) dX8_arrive_80 (by decide) (fun c80_5 => by exfalso; omega) (fun c80_5 => ?_)
      refine j_aload_n cx (pc := 83) dX8_arrive_83 5 rfl ?_
      refine j_get cx (pc := 84) 0 0 rfl rfl (C := RX8) (T := TX8) (N := 12) rfl hinX8 0 (by decide) f7 rfl (v := .ref (mo 1)) rfl dX8_arrive_84 ?_
      refine j_iload cx (pc := 87) dX8_arrive_87 0 rfl ?_
      refine j_aload_n cx (pc := 89) dX8_arrive_89 5 rfl ?_
      refine j_get cx (pc := 90) 0 0 rfl rfl (C := RX8) (T := TX8) (N := 12) rfl hinX8 0 (by decide) f7 rfl (v := .ref (mo 1)) rfl dX8_arrive_90 ?_
      refine j_iload cx (pc := 93) dX8_arrive_93 0 rfl ?_
      refine j_iconst cx (pc := 95) (v := (nI 4)) dX8_arrive_95 (by decide) ?_
      refine j_iaddN cx (pc := 96) dX8_arrive_96 ?_
      refine j_iald cx (pc := 97) 0 1 0 rfl rfl rfl (by omega) (by decide) dX8_arrive_97 ?_
      obtain ⟨V9, hV9⟩ : ∃ z, z = up1 V8 1 i (V8 1 (i + 4)) := ⟨_, rfl⟩
      refine j_iast cx (pc := 98) 0 1 0 rfl rfl rfl (by omega) (by decide) (Bs' := [moB Y mo V9]) (by rw [hV9]; rfl) dX8_arrive_98 ?_
      refine j_iinc cx (pc := 99) (v := (nI (i + 1))) (lv' := [(6, .int (nI (i + 1))), (5, .int (M 1 ((319 + (4 * change)) + 3))), (4, .int (M 1 ((319 + (4 * change)) + 2))), (3, .int (M 1 ((319 + (4 * change)) + 1))), (2, .int (nI (319 + (4 * change)))), (0, .ref (mo 0)), (1, .int (nI change))]) dX8_arrive_99 0 rfl (show nI i + nI 1 = nI (i + 1) from nI_add _ _) (by decide) rfl ?_
      refine j_goto cx (pc := 102) (tgt := 65) dX8_arrive_102 (by decide) ?_
      refine j_lvm (lv' := [(6, .int (nI (i + 1))), (5, .int (M 1 ((319 + (4 * change)) + 3))), (4, .int (M 1 ((319 + (4 * change)) + 2))), (3, .int (M 1 ((319 + (4 * change)) + 1))), (2, .int (nI (319 + (4 * change)))), (0, .ref (mo 0)), (1, .int (nI change))]) (by intro z hz; simp only [List.mem_cons, List.not_mem_nil, or_false] at hz ⊢; rcases hz with rfl | rfl | rfl | rfl | rfl | rfl | rfl <;> simp) ?_
      refine j_bs (Bs' := [moB Y mo (setC V2 1 (sh4 (V2 1) (319 + (4 * change)) (i + 1)))]) (by subst hV9; subst hV8; rw [sh4_s V2 1 _ i h0]) ?_
      exact ih (i + 1) (by omega) (by omega)
  refine j_bs (Bs' := [moB Y mo (setC V2 1 (sh4 (V2 1) (319 + (4 * change)) (319 + (4 * change))))]) (by rw [sh4_0 V2 1 _]) ?_
  refine j_lvm (lv' := [(6, .int (nI (319 + (4 * change)))), (5, .int (M 1 ((319 + (4 * change)) + 3))), (4, .int (M 1 ((319 + (4 * change)) + 2))), (3, .int (M 1 ((319 + (4 * change)) + 1))), (2, .int (nI (319 + (4 * change)))), (0, .ref (mo 0)), (1, .int (nI change))]) (by intro z hz; simp only [List.mem_cons, List.not_mem_nil, or_false] at hz ⊢; rcases hz with rfl | rfl | rfl | rfl | rfl | rfl | rfl <;> simp) ?_
  exact lp1 ((319 + (4 * (tN (M 1 10) - 1))) - (319 + (4 * change))) (319 + (4 * change)) (by omega) (Nat.le_refl _)
/-- what the reference needs of its state on the way, before one arrives -/
def MF (M : Nat → Nat → Int32) : Prop := vp_in (M 1 10) 98 ∧ vp_in (M 1 3) 7 ∧ vp_in (M 1 9) 20
def MFn (M : Nat → Nat → Int32) (nx : Nat) : Prop := nx < tN (M 1 10) ∧ vp_in (M 1 ((319 + (4 * nx)) + 1)) 7 ∧ tN (M 1 ((319 + (4 * nx)) + 1)) ≤ tN (M 1 3)
theorem L8_nx_lt {M : Nat → Nat → Int32} : ∀ (q k j : Nat), j < k → k ≤ 100 → k + q = 100 → ∃ r : Nat, L8_nextChange M q k j = nI r ∧ r < 100 := by
  intro q
  induction q with
  | zero => intro k j h h2 h3; exact ⟨j, rfl, by omega⟩
  | succ q ih =>
    intro k j h h2 h3
    unfold L8_nextChange
    split
    · exact ⟨j, rfl, by omega⟩
    · split
      · exact ih (k + 1) j (by omega) (by omega) (by omega)
      · exact ih (k + 1) k (by omega) (by omega) (by omega)
theorem nx_N {M : Nat → Nat → Int32} (h : ¬ C8_nextChange M = (-5)) : C8_nextChange M = nI (tN (C8_nextChange M)) ∧ tN (C8_nextChange M) < 100 := by
  unfold C8_nextChange at h ⊢
  split
  · rename_i c; rw [if_pos c] at h; exact absurd rfl h
  · obtain ⟨r, e, hr⟩ := L8_nx_lt (M := M) 99 1 0 (by decide) (by decide) rfl
    rw [e, tN_nI (by omega)]
    exact ⟨rfl, hr⟩
/-- one arrival on the reference's side -/
def marS (M : Nat → Nat → Int32) : Nat → Nat → Int32 := C8_arrive M (tN (C8_nextChange M))
def setOK : Nat → (Nat → Nat → Int32) → Prop
  | 0, M => MF M ∧ C8_nextChange M = (-5)
  | q + 1, M => MF M ∧ (¬ C8_nextChange M = (-5) → MFn M (tN (C8_nextChange M)) ∧ setOK q (marS M))
theorem setOK_mf {q : Nat} {M : Nat → Nat → Int32} (h : setOK q M) : MF M := by
  cases q with
  | zero => exact h.1
  | succ q => exact h.1
def setL : Nat → (Nat → Nat → Int32) → Nat → Nat → Int32
  | 0, M => M
  | q + 1, M => if C8_nextChange M = (-5) then M else setL q (marS M)
def C8_settleS (M : Nat → Nat → Int32) : Nat → Nat → Int32 := setL 5000 M
def C8_settle (M : Nat → Nat → Int32) : Int32 × (Nat → Nat → Int32) := ((C8_settleS M 1 4) - (M 1 4), C8_settleS M)
def gtoOK (T : Int32) : Nat → (Nat → Nat → Int32) → Prop
  | 0, M => MF M ∧ C8_nextChange M = (-5)
  | q + 1, M => MF M ∧ (¬ C8_nextChange M = (-5) → ¬ T < C8_whenOf M (tN (C8_nextChange M)) → MFn M (tN (C8_nextChange M)) ∧ gtoOK T q (marS M))
theorem gtoOK_mf {T : Int32} {q : Nat} {M : Nat → Nat → Int32} (h : gtoOK T q M) : MF M := by
  cases q with
  | zero => exact h.1
  | succ q => exact h.1
def gtoL (T : Int32) : Nat → (Nat → Nat → Int32) → Nat → Nat → Int32
  | 0, M => M
  | q + 1, M => if C8_nextChange M = (-5) then M else if T < C8_whenOf M (tN (C8_nextChange M)) then M else gtoL T q (marS M)
def C8_goTo (M : Nat → Nat → Int32) (T : Int32) : Nat → Nat → Int32 := up1 (gtoL T 5000 M) 1 4 T
set_option maxHeartbeats 4000000 in
set_option maxRecDepth 100000 in
theorem c_X8_settle (l : Launch) (D : va_G) (Y : Nat → ClassId) (mo : Nat → Nat) (M : Nat → Nat → Int32)  (hok : setOK 5000 M) : CtI l yX8_settle wsX8_settle 5 122 D (tyL Y) [moB Y mo M] [.ref (mo 0)] (C8_settle M ).1 [moB Y mo ((C8_settle M ).2)] := by
  refine CtI.intro (own := RX8) (cc := cX8_settle) (maxL := 3) rfl (by decide +kernel) rfl (Nat.le_of_ble_eq_true rfl) (fun p e s m args below meth c A Q hA hQ cx hr => ?_)
  have hinX8 : ∀ w ∈ wsX80, w ∈ wsX8_settle := by decide +kernel
  have f7 : Cond.fieldLink RX8 7 "FourPhasesModel" "state" "[I" ∈ wsX8_settle := by decide +kernel
  have hmf : MF M := setOK_mf hok
  have hcn0 : vp_in (M 1 10) 100 := vp_mono hmf.1 (by decide)
  have loop : ∀ (q : Nat) (M0 : Nat → Nat → Int32), setOK q M0 → setL q M0 = setL 5000 M → J p l e { frames := 5, cells := 0, slots := 0, locals := 122 } s m args below meth c 3 D A 0 0 Q [moB Y mo M0] 12 [(2, .int (C8_nextChange M0 )), (0, .ref (mo 0)), (1, .int (M 1 4))] [] := by
    intro q
    induction q with
    | zero =>
      intro M0 hok hS
      have hmf : MF M0 := setOK_mf hok
      have hcn0 : vp_in (M0 1 10) 100 := vp_mono hmf.1 (by decide)
      refine j_iload_n cx (pc := 12) dX8_settle_12 0 rfl ?_
      refine j_bipush cx (pc := 13) (v := (-5)) dX8_settle_13 (by decide) ?_
      refine j_icmp_eq cx (pc := 15) (tgt := 31) dX8_settle_15 (by decide) (fun c15_1 => ?_) (fun c15_1 => by exfalso; exact c15_1 hok.2)
      refine j_aload_n cx (pc := 31) dX8_settle_31 1 rfl ?_
      refine j_get cx (pc := 32) 0 0 rfl rfl (C := RX8) (T := TX8) (N := 12) rfl hinX8 0 (by decide) f7 rfl (v := .ref (mo 1)) rfl dX8_settle_32 ?_
      refine j_iconst cx (pc := 35) (v := (nI 4)) dX8_settle_35 (by decide) ?_
      refine j_iald cx (pc := 36) 0 1 0 rfl rfl rfl (by decide) (by decide) dX8_settle_36 ?_
      refine j_iload_n cx (pc := 37) dX8_settle_37 2 rfl ?_
      refine j_isub cx (pc := 38) dX8_settle_38 ?_
      subst hQ; exact j_iret cx hr (by rw [C8_settle, C8_settleS, ← hS]; simp only [setL]) (by rw [C8_settle, C8_settleS, ← hS]; simp only [setL]) hA dX8_settle_39
    | succ q ih =>
      intro M0 hok hS
      have hmf : MF M0 := setOK_mf hok
      have hcn0 : vp_in (M0 1 10) 100 := vp_mono hmf.1 (by decide)
      refine j_iload_n cx (pc := 12) dX8_settle_12 0 rfl ?_
      refine j_bipush cx (pc := 13) (v := (-5)) dX8_settle_13 (by decide) ?_
      refine j_icmp_eq cx (pc := 15) (tgt := 31) dX8_settle_15 (by decide) (fun c15_1 => ?_) (fun c15_1 => ?_)
      · skip
        refine j_aload_n cx (pc := 31) dX8_settle_31 1 rfl ?_
        refine j_get cx (pc := 32) 0 0 rfl rfl (C := RX8) (T := TX8) (N := 12) rfl hinX8 0 (by decide) f7 rfl (v := .ref (mo 1)) rfl dX8_settle_32 ?_
        refine j_iconst cx (pc := 35) (v := (nI 4)) dX8_settle_35 (by decide) ?_
        refine j_iald cx (pc := 36) 0 1 0 rfl rfl rfl (by decide) (by decide) dX8_settle_36 ?_
        refine j_iload_n cx (pc := 37) dX8_settle_37 2 rfl ?_
        refine j_isub cx (pc := 38) dX8_settle_38 ?_
        subst hQ; exact j_iret cx hr (by rw [C8_settle, C8_settleS, ← hS]; simp only [setL, if_pos c15_1]) (by rw [C8_settle, C8_settleS, ← hS]; simp only [setL, if_pos c15_1]) hA dX8_settle_39
      · skip
        have hnx := nx_N c15_1
        have hnx2 := hnx.2
        have hnf := (hok.2 c15_1).1
        refine j_aload_n cx (pc := 18) dX8_settle_18 1 rfl ?_
        refine j_iload_n cx (pc := 19) dX8_settle_19 0 rfl ?_
        refine j_top (show (C8_nextChange M0 ) = (nI (tN (C8_nextChange M0 ))) from hnx.1) ?_
        obtain ⟨V1, hV1⟩ : ∃ z, z = (C8_arrive M0 (tN (C8_nextChange M0 ))) := ⟨_, rfl⟩
        refine j_callv cx (pc := 20) 1 (c_X8_arrive l D Y mo M0 (tN (C8_nextChange M0 )) hmf.1 hnf.1 hmf.2.1 hmf.2.2 hnf.2.1 hnf.2.2) gX8_settle_X8_arrive rfl (by decide +kernel) rfl ⟨Nat.le_of_ble_eq_true rfl, Nat.le_of_ble_eq_true rfl⟩ [0] rfl (by decide) (Bs' := [moB Y mo V1]) (by rw [hV1]; exact P1_mo M0 (C8_arrive M0 (tN (C8_nextChange M0 )))) A1_mo 0 0 rfl rfl rfl rfl (Nat.le_of_ble_eq_true rfl) dX8_settle_20 ⟨Nat.zero_le _, Nat.zero_le _⟩ ?_
        refine j_aload_n cx (pc := 23) dX8_settle_23 1 rfl ?_
        refine j_calli cx (pc := 24) 0 (c_X8_nextChange l D Y mo V1  (vp_mono (by rw [hV1]; exact (setOK_mf (hok.2 c15_1).2).1) (show 98 ≤ 100 by decide))) gX8_settle_X8_nextChange rfl (by decide +kernel) rfl ⟨Nat.le_of_ble_eq_true rfl, Nat.le_of_ble_eq_true rfl⟩ [0] rfl (by decide) (Bs' := [moB Y mo V1]) rfl rfl 0 0 rfl rfl rfl rfl (Nat.le_of_ble_eq_true rfl) dX8_settle_24 ⟨Nat.zero_le _, Nat.zero_le _⟩ ?_
        refine j_istore_n cx (pc := 27) (lv' := [(2, .int (C8_nextChange V1 )), (0, .ref (mo 0)), (1, .int (M 1 4))]) dX8_settle_27 (by decide) rfl ?_
        refine j_goto cx (pc := 28) (tgt := 12) dX8_settle_28 (by decide) ?_
        refine j_lvm (lv' := [(2, .int (C8_nextChange V1 )), (0, .ref (mo 0)), (1, .int (M 1 4))]) (by intro z hz; simp only [List.mem_cons, List.not_mem_nil, or_false] at hz ⊢; rcases hz with rfl | rfl | rfl <;> simp) ?_
        have hV : V1 = marS M0 := hV1
        exact ih V1 (by rw [hV]; exact (hok.2 c15_1).2) (by rw [← hS, hV]; simp only [setL, if_neg c15_1])
  refine j_aload_n cx (pc := 0) dX8_settle_0 0 rfl ?_
  refine j_get cx (pc := 1) 0 0 rfl rfl (C := RX8) (T := TX8) (N := 12) rfl hinX8 0 (by decide) f7 rfl (v := .ref (mo 1)) rfl dX8_settle_1 ?_
  refine j_iconst cx (pc := 4) (v := (nI 4)) dX8_settle_4 (by decide) ?_
  refine j_iald cx (pc := 5) 0 1 0 rfl rfl rfl (by decide) (by decide) dX8_settle_5 ?_
  refine j_istore_n cx (pc := 6) (lv' := [(1, .int (M 1 4)), (0, .ref (mo 0))]) dX8_settle_6 (by decide) rfl ?_
  refine j_aload_n cx (pc := 7) dX8_settle_7 1 rfl ?_
  refine j_calli cx (pc := 8) 0 (c_X8_nextChange l D Y mo M  hcn0) gX8_settle_X8_nextChange rfl (by decide +kernel) rfl ⟨Nat.le_of_ble_eq_true rfl, Nat.le_of_ble_eq_true rfl⟩ [0] rfl (by decide) (Bs' := [moB Y mo M]) rfl rfl 0 0 rfl rfl rfl rfl (Nat.le_of_ble_eq_true rfl) dX8_settle_8 ⟨Nat.zero_le _, Nat.zero_le _⟩ ?_
  refine j_istore_n cx (pc := 11) (lv' := [(2, .int (C8_nextChange M )), (1, .int (M 1 4)), (0, .ref (mo 0))]) dX8_settle_11 (by decide) rfl ?_
  refine j_lvm (lv' := [(2, .int (C8_nextChange M )), (0, .ref (mo 0)), (1, .int (M 1 4))]) (by intro z hz; simp only [List.mem_cons, List.not_mem_nil, or_false] at hz ⊢; rcases hz with rfl | rfl | rfl <;> simp) ?_
  exact loop 5000 M hok rfl
set_option maxHeartbeats 4000000 in
set_option maxRecDepth 100000 in
theorem c_X8_goTo (l : Launch) (D : va_G) (Y : Nat → ClassId) (mo : Nat → Nat) (M : Nat → Nat → Int32) (T : Int32) (hok : gtoOK T 5000 M) : CtV l yX8_goTo wsX8_goTo 5 122 D (tyL Y) [moB Y mo M] [.ref (mo 0), .int T] [moB Y mo ((C8_goTo M T))] := by
  refine CtV.intro (own := RX8) (cc := cX8_goTo) (maxL := 3) rfl (by decide +kernel) rfl (Nat.le_of_ble_eq_true rfl) (fun p e s m args below meth c A Q hA hQ cx hr => ?_)
  have hinX8 : ∀ w ∈ wsX80, w ∈ wsX8_goTo := by decide +kernel
  have f7 : Cond.fieldLink RX8 7 "FourPhasesModel" "state" "[I" ∈ wsX8_goTo := by decide +kernel
  have hmf : MF M := gtoOK_mf hok
  have hcn0 : vp_in (M 1 10) 100 := vp_mono hmf.1 (by decide)
  have loop : ∀ (q : Nat) (M0 : Nat → Nat → Int32), gtoOK T q M0 → gtoL T q M0 = gtoL T 5000 M → J p l e { frames := 5, cells := 0, slots := 0, locals := 122 } s m args below meth c 3 D A 0 0 Q [moB Y mo M0] 5 [(2, .int (C8_nextChange M0 )), (0, .ref (mo 0)), (1, .int T)] [] := by
    intro q
    induction q with
    | zero =>
      intro M0 hok hS
      have hmf : MF M0 := gtoOK_mf hok
      have hcn0 : vp_in (M0 1 10) 100 := vp_mono hmf.1 (by decide)
      refine j_iload_n cx (pc := 5) dX8_goTo_5 0 rfl ?_
      refine j_bipush cx (pc := 6) (v := (-5)) dX8_goTo_6 (by decide) ?_
      refine j_icmp_eq cx (pc := 8) (tgt := 33) dX8_goTo_8 (by decide) (fun c8_1 => ?_) (fun c8_1 => by exfalso; exact c8_1 hok.2)
      refine j_aload_n cx (pc := 33) dX8_goTo_33 1 rfl ?_
      refine j_get cx (pc := 34) 0 0 rfl rfl (C := RX8) (T := TX8) (N := 12) rfl hinX8 0 (by decide) f7 rfl (v := .ref (mo 1)) rfl dX8_goTo_34 ?_
      refine j_iconst cx (pc := 37) (v := (nI 4)) dX8_goTo_37 (by decide) ?_
      refine j_iload_n cx (pc := 38) dX8_goTo_38 2 rfl ?_
      obtain ⟨V1, hV1⟩ : ∃ z, z = up1 M0 1 4 T := ⟨_, rfl⟩
      refine j_iast cx (pc := 39) 0 1 0 rfl rfl rfl (by decide) (by decide) (Bs' := [moB Y mo V1]) (by rw [hV1]; rfl) dX8_goTo_39 ?_
      subst hQ; exact j_vret cx hr (by subst hV1; rw [C8_goTo, ← hS]; simp only [gtoL]) hA dX8_goTo_40
    | succ q ih =>
      intro M0 hok hS
      have hmf : MF M0 := gtoOK_mf hok
      have hcn0 : vp_in (M0 1 10) 100 := vp_mono hmf.1 (by decide)
      refine j_iload_n cx (pc := 5) dX8_goTo_5 0 rfl ?_
      refine j_bipush cx (pc := 6) (v := (-5)) dX8_goTo_6 (by decide) ?_
      refine j_icmp_eq cx (pc := 8) (tgt := 33) dX8_goTo_8 (by decide) (fun c8_1 => ?_) (fun c8_1 => ?_)
      · skip
        refine j_aload_n cx (pc := 33) dX8_goTo_33 1 rfl ?_
        refine j_get cx (pc := 34) 0 0 rfl rfl (C := RX8) (T := TX8) (N := 12) rfl hinX8 0 (by decide) f7 rfl (v := .ref (mo 1)) rfl dX8_goTo_34 ?_
        refine j_iconst cx (pc := 37) (v := (nI 4)) dX8_goTo_37 (by decide) ?_
        refine j_iload_n cx (pc := 38) dX8_goTo_38 2 rfl ?_
        obtain ⟨V1, hV1⟩ : ∃ z, z = up1 M0 1 4 T := ⟨_, rfl⟩
        refine j_iast cx (pc := 39) 0 1 0 rfl rfl rfl (by decide) (by decide) (Bs' := [moB Y mo V1]) (by rw [hV1]; rfl) dX8_goTo_39 ?_
        subst hQ; exact j_vret cx hr (by subst hV1; rw [C8_goTo, ← hS]; simp only [gtoL, if_pos c8_1]) hA dX8_goTo_40
      · skip
        have hnx := nx_N c8_1
        have hnx2 := hnx.2
        refine j_aload_n cx (pc := 11) dX8_goTo_11 1 rfl ?_
        refine j_iload_n cx (pc := 12) dX8_goTo_12 0 rfl ?_
        refine j_top (show (C8_nextChange M0 ) = (nI (tN (C8_nextChange M0 ))) from hnx.1) ?_
        refine j_calli cx (pc := 13) 1 (c_X8_whenOf l D Y mo M0 (tN (C8_nextChange M0 )) (by omega)) gX8_goTo_X8_whenOf rfl (by decide +kernel) rfl ⟨Nat.le_of_ble_eq_true rfl, Nat.le_of_ble_eq_true rfl⟩ [0] rfl (by decide) (Bs' := [moB Y mo M0]) rfl rfl 0 0 rfl rfl rfl rfl (Nat.le_of_ble_eq_true rfl) dX8_goTo_13 ⟨Nat.zero_le _, Nat.zero_le _⟩ ?_
        refine j_iload_n cx (pc := 16) dX8_goTo_16 2 rfl ?_
        refine j_icmp_gt cx (pc := 17) (tgt := 33) dX8_goTo_17 (by decide) (fun c17_2 => ?_) (fun c17_2 => ?_)
        · skip
          refine j_aload_n cx (pc := 33) dX8_goTo_33 1 rfl ?_
          refine j_get cx (pc := 34) 0 0 rfl rfl (C := RX8) (T := TX8) (N := 12) rfl hinX8 0 (by decide) f7 rfl (v := .ref (mo 1)) rfl dX8_goTo_34 ?_
          refine j_iconst cx (pc := 37) (v := (nI 4)) dX8_goTo_37 (by decide) ?_
          refine j_iload_n cx (pc := 38) dX8_goTo_38 2 rfl ?_
          obtain ⟨V2, hV2⟩ : ∃ z, z = up1 M0 1 4 T := ⟨_, rfl⟩
          refine j_iast cx (pc := 39) 0 1 0 rfl rfl rfl (by decide) (by decide) (Bs' := [moB Y mo V2]) (by rw [hV2]; rfl) dX8_goTo_39 ?_
          subst hQ; exact j_vret cx hr (by subst hV2; rw [C8_goTo, ← hS]; simp only [gtoL, if_neg c8_1, if_pos c17_2]) hA dX8_goTo_40
        · skip
          have hnf := (hok.2 c8_1 c17_2).1
          refine j_aload_n cx (pc := 20) dX8_goTo_20 1 rfl ?_
          refine j_iload_n cx (pc := 21) dX8_goTo_21 0 rfl ?_
          refine j_top (show (C8_nextChange M0 ) = (nI (tN (C8_nextChange M0 ))) from hnx.1) ?_
          obtain ⟨V3, hV3⟩ : ∃ z, z = (C8_arrive M0 (tN (C8_nextChange M0 ))) := ⟨_, rfl⟩
          refine j_callv cx (pc := 22) 1 (c_X8_arrive l D Y mo M0 (tN (C8_nextChange M0 )) hmf.1 hnf.1 hmf.2.1 hmf.2.2 hnf.2.1 hnf.2.2) gX8_goTo_X8_arrive rfl (by decide +kernel) rfl ⟨Nat.le_of_ble_eq_true rfl, Nat.le_of_ble_eq_true rfl⟩ [0] rfl (by decide) (Bs' := [moB Y mo V3]) (by rw [hV3]; exact P1_mo M0 (C8_arrive M0 (tN (C8_nextChange M0 )))) A1_mo 0 0 rfl rfl rfl rfl (Nat.le_of_ble_eq_true rfl) dX8_goTo_22 ⟨Nat.zero_le _, Nat.zero_le _⟩ ?_
          refine j_aload_n cx (pc := 25) dX8_goTo_25 1 rfl ?_
          refine j_calli cx (pc := 26) 0 (c_X8_nextChange l D Y mo V3  (vp_mono (by rw [hV3]; exact (gtoOK_mf (hok.2 c8_1 c17_2).2).1) (show 98 ≤ 100 by decide))) gX8_goTo_X8_nextChange rfl (by decide +kernel) rfl ⟨Nat.le_of_ble_eq_true rfl, Nat.le_of_ble_eq_true rfl⟩ [0] rfl (by decide) (Bs' := [moB Y mo V3]) rfl rfl 0 0 rfl rfl rfl rfl (Nat.le_of_ble_eq_true rfl) dX8_goTo_26 ⟨Nat.zero_le _, Nat.zero_le _⟩ ?_
          refine j_istore_n cx (pc := 29) (lv' := [(2, .int (C8_nextChange V3 )), (0, .ref (mo 0)), (1, .int T)]) dX8_goTo_29 (by decide) rfl ?_
          refine j_goto cx (pc := 30) (tgt := 5) dX8_goTo_30 (by decide) ?_
          refine j_lvm (lv' := [(2, .int (C8_nextChange V3 )), (0, .ref (mo 0)), (1, .int T)]) (by intro z hz; simp only [List.mem_cons, List.not_mem_nil, or_false] at hz ⊢; rcases hz with rfl | rfl | rfl <;> simp) ?_
          have hV : V3 = marS M0 := hV3
          exact ih V3 (by rw [hV]; exact (hok.2 c8_1 c17_2).2) (by rw [← hS, hV]; simp only [gtoL, if_neg c8_1, if_neg c17_2])
  refine j_aload_n cx (pc := 0) dX8_goTo_0 0 rfl ?_
  refine j_calli cx (pc := 1) 0 (c_X8_nextChange l D Y mo M  hcn0) gX8_goTo_X8_nextChange rfl (by decide +kernel) rfl ⟨Nat.le_of_ble_eq_true rfl, Nat.le_of_ble_eq_true rfl⟩ [0] rfl (by decide) (Bs' := [moB Y mo M]) rfl rfl 0 0 rfl rfl rfl rfl (Nat.le_of_ble_eq_true rfl) dX8_goTo_1 ⟨Nat.zero_le _, Nat.zero_le _⟩ ?_
  refine j_istore_n cx (pc := 4) (lv' := [(2, .int (C8_nextChange M )), (0, .ref (mo 0)), (1, .int T)]) dX8_goTo_4 (by decide) rfl ?_
  refine j_lvm (lv' := [(2, .int (C8_nextChange M )), (0, .ref (mo 0)), (1, .int T)]) (by intro z hz; simp only [List.mem_cons, List.not_mem_nil, or_false] at hz ⊢; rcases hz with rfl | rfl | rfl <;> simp) ?_
  exact loop 5000 M hok rfl
