theorem ok_letOneGo {V : Nat → Nat → Int32} (hh : chOK (chU V)) : chOK (chU (C2_letOneGo V).2) := by
  unfold C2_letOneGo
  simp only []
  split
  · exact ok_rwS hh
  · exact okc_set (by decide) (okc_set (by decide) (okc_set (by decide) (ok_rwS hh)))
theorem hl_ok {V : Nat → Nat → Int32} {x : Int32} (hst : vp_in (V 0 0) 7) (h : ¬ C2_hasLink V x = 0) : x = nI (tN x) ∧ tN x < 7 ∧ tN x ≤ tN (V 0 0) := by
  unfold C2_hasLink at h
  by_cases c : x < 0
  · rw [if_pos c] at h; exact absurd rfl h
  · rw [if_neg c] at h
    by_cases c2 : (V 0 0) < x
    · rw [if_pos c2] at h; exact absurd rfl h
    · have e := inG c
      have e2 := inN hst
      have l := inL hst
      have : tN x ≤ tN (V 0 0) := (nI_leI (tN_lt _) (tN_lt _)).mp (by rw [← e, ← e2]; exact Int32.not_lt.mp c2)
      exact ⟨e, by omega, this⟩
theorem lt2_of {x : Int32} {n : Nat} (hn : n < 2 ^ 31) (h0 : ¬ x < 0) (h : x < nI n) : x = nI (tN x) ∧ tN x < n := ⟨inG h0, (nI_ltI (tN_lt _) hn).mp (by rw [← inG h0]; exact h)⟩
theorem app_ok {U : Nat → Nat → Int32} {word : Int32} (hc : vp_in (U 0 0) 21) : vp_in (C5_append U word 0 0) 21 := by
  unfold C5_append
  have e := inN hc
  split
  · exact hc
  · have : vp_in (U 0 0 + nI 1) 21 := by rw [e, nI_add]; exact vp_in_nI' (by omega)
    exact this
def C2_letRequestArrive (V : Nat → Nat → Int32) (k : Nat) (value : Int32) : Nat → Nat → Int32 :=
  let V1 := up1 V (11 + k) 1 value
  if value = 0 then
    let V7 := (C2_makeAnswer V1 k (nI 0) (nI 0))
    V7
  else
    if k = (tN (V 0 0)) then
      let V5 := (C2_noteWord V1 (V1 (11 + k) 5))
      let V6 := (C2_makeAnswer V5 k (nI 1) (V5 1 1))
      V6
    else
      if (V1 2 k) = (-1) then
        let V2 := (C2_takeWord V1 k)
        if (V2 (11 + (k + 1)) 6) = 0 then
          V2
        else
          let V3 := (C2_offer V2 (k + 1) (V2 2 k))
          V3
      else
        let V4 := up1 V1 (11 + k) 7 (nI 1)
        V4
set_option maxHeartbeats 4000000 in
set_option maxRecDepth 100000 in
theorem c_X2_letRequestArrive (l : Launch) (D : va_G) (Y : Nat → ClassId) (ad : Nat → Nat) (V : Nat → Nat → Int32) (k : Nat) (value : Int32) (hk : k < 7) (hst : vp_in (V 0 0) 7) (hkn : k ≤ tN (V 0 0)) (hnt : ¬ V 7 0 < 0) (hh : chOK (chU V)) : CtV l yX2_letRequestArrive wsX2_letRequestArrive 3 73 D (tyL Y) (LB Y ad V) [.ref (ad 0), .int (nI k), .int value] (LB Y ad (C2_letRequestArrive V k value)) := by
  refine CtV.intro (own := RX2) (cc := cX2_letRequestArrive) (maxL := 3) rfl (by decide +kernel) rfl (Nat.le_of_ble_eq_true rfl) (fun p e s m args below meth c A Q hA hQ cx hr => ?_)
  have hinX2 : ∀ w ∈ wsX20, w ∈ wsX2_letRequestArrive := by decide +kernel
  have hinX3 : ∀ w ∈ wsX30, w ∈ wsX2_letRequestArrive := by decide +kernel
  have f9 : Cond.fieldLink RX2 9 "FourPhases$Line" "settings" "[I" ∈ wsX2_letRequestArrive := by decide +kernel
  have f17 : Cond.fieldLink RX2 17 "FourPhases$Line" "links" "[LFourPhases$Link;" ∈ wsX2_letRequestArrive := by decide +kernel
  have f21 : Cond.fieldLink RX2 21 "FourPhases$Line" "held" "[I" ∈ wsX2_letRequestArrive := by decide +kernel
  have f53 : Cond.fieldLink RX2 53 "FourPhases$Line" "stages" "I" ∈ wsX2_letRequestArrive := by decide +kernel
  have f99 : Cond.fieldLink RX2 99 "FourPhases$Link" "atRest" "Z" ∈ wsX2_letRequestArrive := by decide +kernel
  have f148 : Cond.fieldLink RX2 148 "FourPhases$Link" "dataAtEnd" "I" ∈ wsX2_letRequestArrive := by decide +kernel
  have f151 : Cond.fieldLink RX2 151 "FourPhases$Link" "requestAtEnd" "I" ∈ wsX2_letRequestArrive := by decide +kernel
  have f161 : Cond.fieldLink RX2 161 "FourPhases$Link" "requestWaits" "Z" ∈ wsX2_letRequestArrive := by decide +kernel
  have hst7 : tN (V 0 0) < 7 := inL hst
  refine j_aload_n cx (pc := 0) dX2_letRequestArrive_0 0 rfl ?_
  refine j_get cx (pc := 1) 0 0 rfl rfl (C := RX2) (T := TX2) (N := 12) rfl hinX2 6 (by decide) f17 rfl (v := .ref (ad 2)) rfl dX2_letRequestArrive_1 ?_
  refine j_iload_n cx (pc := 4) dX2_letRequestArrive_4 1 rfl ?_
  refine j_aald cx (pc := 5) 0 2 3 rfl rfl rfl (by omega) (by decide) (a' := (ad (13 + 2 * k))) rfl dX2_letRequestArrive_5 ?_
  refine j_iload_n cx (pc := 6) dX2_letRequestArrive_6 2 rfl ?_
  obtain ⟨V1, hV1⟩ : ∃ z, z = up1 V (11 + k) 1 value := ⟨_, rfl⟩
  have okV1 : chOK (chU V1) := by rw [hV1]; exact okc_set (by omega) hh
  refine j_put cx (pc := 7) (3 + k) 0 (LB_lk Y ad V hk) rfl (C := RX3) (T := TX3) (N := 10) rfl hinX3 tyX3 tyX3_ok nmX3 2 (by decide) f151 rfl rfl rfl rfl (Nat.le_of_ble_eq_true rfl) (Bs' := LB Y ad V1) (by rw [hV1]; exact LB_lkF Y ad V hk (upd (V (11 + k)) 1 value)) dX2_letRequestArrive_7 ?_
  refine j_iload_n cx (pc := 10) dX2_letRequestArrive_10 2 rfl ?_
  refine j_if_ne cx (pc := 11) (tgt := 24) dX2_letRequestArrive_11 (by decide) (fun c11_1 => ?_) (fun c11_1 => ?_)
  · skip
    refine j_iload_n cx (pc := 24) dX2_letRequestArrive_24 1 rfl ?_
    refine j_aload_n cx (pc := 25) dX2_letRequestArrive_25 0 rfl ?_
    refine j_get cx (pc := 26) 0 0 rfl rfl (C := RX2) (T := TX2) (N := 12) rfl hinX2 0 (by decide) f53 rfl (v := .int (V1 0 0)) rfl dX2_letRequestArrive_26 ?_
    refine j_top (show (V1 0 0) = (nI (tN (V 0 0))) from (by rw [hV1]; (repeat first | rw [up1_ne (by omega)] | rw [rwS_ne (by omega) (by omega)]); exact (inN hst))) ?_
    refine j_icmpN_ne cx (pc := 29) (by omega) (by omega) (tgt := 60) dX2_letRequestArrive_29 (by decide) (fun c29_2 => ?_) (fun c29_2 => ?_)
    · skip
      refine j_aload_n cx (pc := 60) dX2_letRequestArrive_60 0 rfl ?_
      refine j_get cx (pc := 61) 0 0 rfl rfl (C := RX2) (T := TX2) (N := 12) rfl hinX2 7 (by decide) f21 rfl (v := .ref (ad 3)) rfl dX2_letRequestArrive_61 ?_
      refine j_iload_n cx (pc := 64) dX2_letRequestArrive_64 1 rfl ?_
      refine j_iald cx (pc := 65) 0 3 0 rfl rfl rfl (by omega) (by decide) dX2_letRequestArrive_65 ?_
      refine j_iconst cx (pc := 66) (v := (-1)) dX2_letRequestArrive_66 (by decide) ?_
      refine j_icmp_eq cx (pc := 67) (tgt := 83) dX2_letRequestArrive_67 (by decide) (fun c67_3 => ?_) (fun c67_3 => ?_)
      · skip
        refine j_aload_n cx (pc := 83) dX2_letRequestArrive_83 0 rfl ?_
        refine j_iload_n cx (pc := 84) dX2_letRequestArrive_84 1 rfl ?_
        obtain ⟨V2, hV2⟩ : ∃ z, z = (C2_takeWord V1 k) := ⟨_, rfl⟩
        have okV2 : chOK (chU V2) := by rw [hV2]; exact ok_takeWord (by omega) okV1
        refine j_callv cx (pc := 85) 1 (c_X2_takeWord l D Y ad V1 k (by omega) okV1) gX2_letRequestArrive_X2_takeWord rfl (by decide +kernel) rfl ⟨Nat.le_of_ble_eq_true rfl, Nat.le_of_ble_eq_true rfl⟩ [0, 1, 2, 3, 4, 5, 6, 7, 8, 9, 10, 11] rfl (by decide) (Bs' := LB Y ad V2) (by rw [hV2]; exact P1_ln V1 (C2_takeWord V1 k)) A1_ln 0 0 rfl rfl rfl rfl (Nat.le_of_ble_eq_true rfl) dX2_letRequestArrive_85 ⟨Nat.zero_le _, Nat.zero_le _⟩ ?_
        refine j_aload_n cx (pc := 88) dX2_letRequestArrive_88 0 rfl ?_
        refine j_get cx (pc := 89) 0 0 rfl rfl (C := RX2) (T := TX2) (N := 12) rfl hinX2 6 (by decide) f17 rfl (v := .ref (ad 2)) rfl dX2_letRequestArrive_89 ?_
        refine j_iload_n cx (pc := 92) dX2_letRequestArrive_92 1 rfl ?_
        refine j_iconst cx (pc := 93) (v := (nI 1)) dX2_letRequestArrive_93 (by decide) ?_
        refine j_iaddN cx (pc := 94) dX2_letRequestArrive_94 ?_
        refine j_aald cx (pc := 95) 0 2 3 rfl rfl rfl (by omega) (by decide) (a' := (ad (13 + 2 * (k + 1)))) rfl dX2_letRequestArrive_95 ?_
        refine j_get cx (pc := 96) (3 + (k + 1)) 0 (LB_lk Y ad V2 (by omega)) rfl (C := RX3) (T := TX3) (N := 10) rfl hinX3 7 (by decide) f99 rfl (v := .int (V2 (11 + (k + 1)) 6)) rfl dX2_letRequestArrive_96 ?_
        refine j_if_eq cx (pc := 99) (tgt := 115) dX2_letRequestArrive_99 (by decide) (fun c99_4 => ?_) (fun c99_4 => ?_)
        · skip
          subst hQ; exact j_vret cx hr (by subst hV2; subst hV1; simp only [C2_letRequestArrive, if_neg c11_1, if_neg c29_2, if_pos c67_3, if_pos c99_4]) hA dX2_letRequestArrive_115
        · skip
          refine j_aload_n cx (pc := 102) dX2_letRequestArrive_102 0 rfl ?_
          refine j_iload_n cx (pc := 103) dX2_letRequestArrive_103 1 rfl ?_
          refine j_iconst cx (pc := 104) (v := (nI 1)) dX2_letRequestArrive_104 (by decide) ?_
          refine j_iaddN cx (pc := 105) dX2_letRequestArrive_105 ?_
          refine j_aload_n cx (pc := 106) dX2_letRequestArrive_106 0 rfl ?_
          refine j_get cx (pc := 107) 0 0 rfl rfl (C := RX2) (T := TX2) (N := 12) rfl hinX2 7 (by decide) f21 rfl (v := .ref (ad 3)) rfl dX2_letRequestArrive_107 ?_
          refine j_iload_n cx (pc := 110) dX2_letRequestArrive_110 1 rfl ?_
          refine j_iald cx (pc := 111) 0 3 0 rfl rfl rfl (by omega) (by decide) dX2_letRequestArrive_111 ?_
          obtain ⟨V3, hV3⟩ : ∃ z, z = (C2_offer V2 (k + 1) (V2 2 k)) := ⟨_, rfl⟩
          have okV3 : chOK (chU V3) := by rw [hV3]; exact ok_offer (by omega) okV2
          refine j_callv cx (pc := 112) 2 (c_X2_offer l D Y ad V2 (k + 1) (V2 2 k) (by omega) okV2) gX2_letRequestArrive_X2_offer rfl (by decide +kernel) rfl ⟨Nat.le_of_ble_eq_true rfl, Nat.le_of_ble_eq_true rfl⟩ [0, 1, 2, 3, 4, 5, 6, 7, 8, 9, 10, 11] rfl (by decide) (Bs' := LB Y ad V3) (by rw [hV3]; exact P1_ln V2 (C2_offer V2 (k + 1) (V2 2 k))) A1_ln 0 0 rfl rfl rfl rfl (Nat.le_of_ble_eq_true rfl) dX2_letRequestArrive_112 ⟨Nat.zero_le _, Nat.zero_le _⟩ ?_
          subst hQ; exact j_vret cx hr (by subst hV3; subst hV2; subst hV1; simp only [C2_letRequestArrive, if_neg c11_1, if_neg c29_2, if_pos c67_3, if_neg c99_4]) hA dX2_letRequestArrive_115
      · skip
        refine j_aload_n cx (pc := 70) dX2_letRequestArrive_70 0 rfl ?_
        refine j_get cx (pc := 71) 0 0 rfl rfl (C := RX2) (T := TX2) (N := 12) rfl hinX2 6 (by decide) f17 rfl (v := .ref (ad 2)) rfl dX2_letRequestArrive_71 ?_
        refine j_iload_n cx (pc := 74) dX2_letRequestArrive_74 1 rfl ?_
        refine j_aald cx (pc := 75) 0 2 3 rfl rfl rfl (by omega) (by decide) (a' := (ad (13 + 2 * k))) rfl dX2_letRequestArrive_75 ?_
        refine j_iconst cx (pc := 76) (v := (nI 1)) dX2_letRequestArrive_76 (by decide) ?_
        obtain ⟨V4, hV4⟩ : ∃ z, z = up1 V1 (11 + k) 7 (nI 1) := ⟨_, rfl⟩
        have okV4 : chOK (chU V4) := by rw [hV4]; exact okc_set (by omega) okV1
        refine j_put cx (pc := 77) (3 + k) 0 (LB_lk Y ad V1 hk) rfl (C := RX3) (T := TX3) (N := 10) rfl hinX3 tyX3 tyX3_ok nmX3 8 (by decide) f161 rfl rfl rfl rfl (Nat.le_of_ble_eq_true rfl) (Bs' := LB Y ad V4) (by rw [hV4]; exact LB_lkF Y ad V1 hk (upd (V1 (11 + k)) 7 (nI 1))) dX2_letRequestArrive_77 ?_
        refine j_goto cx (pc := 80) (tgt := 115) dX2_letRequestArrive_80 (by decide) ?_
        subst hQ; exact j_vret cx hr (by subst hV4; subst hV1; simp only [C2_letRequestArrive, if_neg c11_1, if_neg c29_2, if_neg c67_3]) hA dX2_letRequestArrive_115
    · skip
      refine j_aload_n cx (pc := 32) dX2_letRequestArrive_32 0 rfl ?_
      refine j_aload_n cx (pc := 33) dX2_letRequestArrive_33 0 rfl ?_
      refine j_get cx (pc := 34) 0 0 rfl rfl (C := RX2) (T := TX2) (N := 12) rfl hinX2 6 (by decide) f17 rfl (v := .ref (ad 2)) rfl dX2_letRequestArrive_34 ?_
      refine j_iload_n cx (pc := 37) dX2_letRequestArrive_37 1 rfl ?_
      refine j_aald cx (pc := 38) 0 2 3 rfl rfl rfl (by omega) (by decide) (a' := (ad (13 + 2 * k))) rfl dX2_letRequestArrive_38 ?_
      refine j_get cx (pc := 39) (3 + k) 0 (LB_lk Y ad V1 hk) rfl (C := RX3) (T := TX3) (N := 10) rfl hinX3 6 (by decide) f148 rfl (v := .int (V1 (11 + k) 5)) rfl dX2_letRequestArrive_39 ?_
      obtain ⟨V5, hV5⟩ : ∃ z, z = (C2_noteWord V1 (V1 (11 + k) 5)) := ⟨_, rfl⟩
      have okV5 : chOK (chU V5) := by rw [hV5]; exact ok_noteWord okV1
      refine j_callv cx (pc := 42) 1 (c_X2_noteWord l D Y ad V1 (V1 (11 + k) 5) (by rw [hV1]; (repeat first | rw [up1_ne (by omega)] | rw [rwS_ne (by omega) (by omega)]); exact hnt) okV1) gX2_letRequestArrive_X2_noteWord rfl (by decide +kernel) rfl ⟨Nat.le_of_ble_eq_true rfl, Nat.le_of_ble_eq_true rfl⟩ [0, 1, 2, 3, 4, 5, 6, 7, 8, 9, 10, 11] rfl (by decide) (Bs' := LB Y ad V5) (by rw [hV5]; exact P1_ln V1 (C2_noteWord V1 (V1 (11 + k) 5))) A1_ln 0 0 rfl rfl rfl rfl (Nat.le_of_ble_eq_true rfl) dX2_letRequestArrive_42 ⟨Nat.zero_le _, Nat.zero_le _⟩ ?_
      refine j_aload_n cx (pc := 45) dX2_letRequestArrive_45 0 rfl ?_
      refine j_iload_n cx (pc := 46) dX2_letRequestArrive_46 1 rfl ?_
      refine j_iconst cx (pc := 47) (v := (nI 1)) dX2_letRequestArrive_47 (by decide) ?_
      refine j_aload_n cx (pc := 48) dX2_letRequestArrive_48 0 rfl ?_
      refine j_get cx (pc := 49) 0 0 rfl rfl (C := RX2) (T := TX2) (N := 12) rfl hinX2 5 (by decide) f9 rfl (v := .ref (ad 1)) rfl dX2_letRequestArrive_49 ?_
      refine j_iconst cx (pc := 52) (v := (nI 1)) dX2_letRequestArrive_52 (by decide) ?_
      refine j_iald cx (pc := 53) 0 1 0 rfl rfl rfl (by decide) (by decide) dX2_letRequestArrive_53 ?_
      obtain ⟨V6, hV6⟩ : ∃ z, z = (C2_makeAnswer V5 k (nI 1) (V5 1 1)) := ⟨_, rfl⟩
      have okV6 : chOK (chU V6) := by rw [hV6]; exact ok_makeAnswer (by omega) okV5
      refine j_callv cx (pc := 54) 3 (c_X2_makeAnswer l D Y ad V5 k (nI 1) (V5 1 1) hk okV5) gX2_letRequestArrive_X2_makeAnswer rfl (by decide +kernel) rfl ⟨Nat.le_of_ble_eq_true rfl, Nat.le_of_ble_eq_true rfl⟩ [0, 1, 2, 3, 4, 5, 6, 7, 8, 9, 10, 11] rfl (by decide) (Bs' := LB Y ad V6) (by rw [hV6]; exact P1_ln V5 (C2_makeAnswer V5 k (nI 1) (V5 1 1))) A1_ln 0 0 rfl rfl rfl rfl (Nat.le_of_ble_eq_true rfl) dX2_letRequestArrive_54 ⟨Nat.zero_le _, Nat.zero_le _⟩ ?_
      refine j_goto cx (pc := 57) (tgt := 115) dX2_letRequestArrive_57 (by decide) ?_
      subst hQ; exact j_vret cx hr (by subst hV6; subst hV5; subst hV1; simp only [C2_letRequestArrive, if_neg c11_1, if_pos c29_2]) hA dX2_letRequestArrive_115
  · skip
    refine j_aload_n cx (pc := 14) dX2_letRequestArrive_14 0 rfl ?_
    refine j_iload_n cx (pc := 15) dX2_letRequestArrive_15 1 rfl ?_
    refine j_iconst cx (pc := 16) (v := (nI 0)) dX2_letRequestArrive_16 (by decide) ?_
    refine j_iconst cx (pc := 17) (v := (nI 0)) dX2_letRequestArrive_17 (by decide) ?_
    obtain ⟨V7, hV7⟩ : ∃ z, z = (C2_makeAnswer V1 k (nI 0) (nI 0)) := ⟨_, rfl⟩
    have okV7 : chOK (chU V7) := by rw [hV7]; exact ok_makeAnswer (by omega) okV1
    refine j_callv cx (pc := 18) 3 (c_X2_makeAnswer l D Y ad V1 k (nI 0) (nI 0) hk okV1) gX2_letRequestArrive_X2_makeAnswer rfl (by decide +kernel) rfl ⟨Nat.le_of_ble_eq_true rfl, Nat.le_of_ble_eq_true rfl⟩ [0, 1, 2, 3, 4, 5, 6, 7, 8, 9, 10, 11] rfl (by decide) (Bs' := LB Y ad V7) (by rw [hV7]; exact P1_ln V1 (C2_makeAnswer V1 k (nI 0) (nI 0))) A1_ln 0 0 rfl rfl rfl rfl (Nat.le_of_ble_eq_true rfl) dX2_letRequestArrive_18 ⟨Nat.zero_le _, Nat.zero_le _⟩ ?_
    refine j_goto cx (pc := 21) (tgt := 115) dX2_letRequestArrive_21 (by decide) ?_
    subst hQ; exact j_vret cx hr (by subst hV7; subst hV1; simp only [C2_letRequestArrive, if_pos c11_1]) hA dX2_letRequestArrive_115
def C2_letAnswerArrive (V : Nat → Nat → Int32) (k : Nat) (value : Int32) : Nat → Nat → Int32 :=
  let V1 := up1 V (11 + k) 3 value
  if value = 0 then
    let V5 := up1 V1 (11 + k) 6 (nI 1)
    if k = 0 then
      let V7 := (C2_letOneGo V5 ).2
      if ((C2_letOneGo V5 ).1) = (-1) then
        V7
      else
        let V8 := (C2_offer V7 k ((C2_letOneGo V5 ).1))
        V8
    else
      if (V5 2 (k - 1)) = (-1) then
        V5
      else
        let V6 := (C2_offer V5 k (V5 2 (k - 1)))
        V6
  else
    let V2 := (C2_makeRequest V1 k (nI 0) (nI 0))
    if k = 0 then
      V2
    else
      let V3 := up1 V2 2 (k - 1) (-1)
      if (V3 (11 + (k - 1)) 7) = 0 then
        V3
      else
        let V4 := (C2_takeWord V3 (k - 1))
        V4
set_option maxHeartbeats 4000000 in
set_option maxRecDepth 100000 in
theorem c_X2_letAnswerArrive (l : Launch) (D : va_G) (Y : Nat → ClassId) (ad : Nat → Nat) (V : Nat → Nat → Int32) (k : Nat) (value : Int32) (hk : k < 7) (hof : ¬ V 0 3 < 0) (hr0 : vp_in (V 27 0) 21) (hr1 : vp_in (V 28 0) 21) (hh : chOK (chU V)) : CtV l yX2_letAnswerArrive wsX2_letAnswerArrive 3 73 D (tyL Y) (LB Y ad V) [.ref (ad 0), .int (nI k), .int value] (LB Y ad (C2_letAnswerArrive V k value)) := by
  refine CtV.intro (own := RX2) (cc := cX2_letAnswerArrive) (maxL := 4) rfl (by decide +kernel) rfl (Nat.le_of_ble_eq_true rfl) (fun p e s m args below meth c A Q hA hQ cx hr => ?_)
  have hinX2 : ∀ w ∈ wsX20, w ∈ wsX2_letAnswerArrive := by decide +kernel
  have hinX3 : ∀ w ∈ wsX30, w ∈ wsX2_letAnswerArrive := by decide +kernel
  have f17 : Cond.fieldLink RX2 17 "FourPhases$Line" "links" "[LFourPhases$Link;" ∈ wsX2_letAnswerArrive := by decide +kernel
  have f21 : Cond.fieldLink RX2 21 "FourPhases$Line" "held" "[I" ∈ wsX2_letAnswerArrive := by decide +kernel
  have f99 : Cond.fieldLink RX2 99 "FourPhases$Link" "atRest" "Z" ∈ wsX2_letAnswerArrive := by decide +kernel
  have f161 : Cond.fieldLink RX2 161 "FourPhases$Link" "requestWaits" "Z" ∈ wsX2_letAnswerArrive := by decide +kernel
  have f167 : Cond.fieldLink RX2 167 "FourPhases$Link" "answerAtBeginning" "I" ∈ wsX2_letAnswerArrive := by decide +kernel
  refine j_aload_n cx (pc := 0) dX2_letAnswerArrive_0 0 rfl ?_
  refine j_get cx (pc := 1) 0 0 rfl rfl (C := RX2) (T := TX2) (N := 12) rfl hinX2 6 (by decide) f17 rfl (v := .ref (ad 2)) rfl dX2_letAnswerArrive_1 ?_
  refine j_iload_n cx (pc := 4) dX2_letAnswerArrive_4 1 rfl ?_
  refine j_aald cx (pc := 5) 0 2 3 rfl rfl rfl (by omega) (by decide) (a' := (ad (13 + 2 * k))) rfl dX2_letAnswerArrive_5 ?_
  refine j_iload_n cx (pc := 6) dX2_letAnswerArrive_6 2 rfl ?_
  obtain ⟨V1, hV1⟩ : ∃ z, z = up1 V (11 + k) 3 value := ⟨_, rfl⟩
  have okV1 : chOK (chU V1) := by rw [hV1]; exact okc_set (by omega) hh
  refine j_put cx (pc := 7) (3 + k) 0 (LB_lk Y ad V hk) rfl (C := RX3) (T := TX3) (N := 10) rfl hinX3 tyX3 tyX3_ok nmX3 4 (by decide) f167 rfl rfl rfl rfl (Nat.le_of_ble_eq_true rfl) (Bs' := LB Y ad V1) (by rw [hV1]; exact LB_lkF Y ad V hk (upd (V (11 + k)) 3 value)) dX2_letAnswerArrive_7 ?_
  refine j_iload_n cx (pc := 10) dX2_letAnswerArrive_10 2 rfl ?_
  refine j_if_ne cx (pc := 11) (tgt := 56) dX2_letAnswerArrive_11 (by decide) (fun c11_1 => ?_) (fun c11_1 => ?_)
  · skip
    refine j_aload_n cx (pc := 56) dX2_letAnswerArrive_56 0 rfl ?_
    refine j_iload_n cx (pc := 57) dX2_letAnswerArrive_57 1 rfl ?_
    refine j_iconst cx (pc := 58) (v := (nI 0)) dX2_letAnswerArrive_58 (by decide) ?_
    refine j_iconst cx (pc := 59) (v := (nI 0)) dX2_letAnswerArrive_59 (by decide) ?_
    obtain ⟨V2, hV2⟩ : ∃ z, z = (C2_makeRequest V1 k (nI 0) (nI 0)) := ⟨_, rfl⟩
    have okV2 : chOK (chU V2) := by rw [hV2]; exact ok_makeRequest (by omega) okV1
    refine j_callv cx (pc := 60) 3 (c_X2_makeRequest l D Y ad V1 k (nI 0) (nI 0) hk okV1) gX2_letAnswerArrive_X2_makeRequest rfl (by decide +kernel) rfl ⟨Nat.le_of_ble_eq_true rfl, Nat.le_of_ble_eq_true rfl⟩ [0, 1, 2, 3, 4, 5, 6, 7, 8, 9, 10, 11] rfl (by decide) (Bs' := LB Y ad V2) (by rw [hV2]; exact P1_ln V1 (C2_makeRequest V1 k (nI 0) (nI 0))) A1_ln 0 0 rfl rfl rfl rfl (Nat.le_of_ble_eq_true rfl) dX2_letAnswerArrive_60 ⟨Nat.zero_le _, Nat.zero_le _⟩ ?_
    refine j_iload_n cx (pc := 63) dX2_letAnswerArrive_63 1 rfl ?_
    refine j_ifN_le cx (pc := 64) (by omega) (tgt := 97) dX2_letAnswerArrive_64 (by decide) (fun c64_2 => ?_) (fun c64_2 => ?_)
    · skip
      subst hQ; exact j_vret cx hr (by subst hV2; subst hV1; simp only [C2_letAnswerArrive, if_neg c11_1, if_pos c64_2]) hA dX2_letAnswerArrive_97
    · skip
      refine j_aload_n cx (pc := 67) dX2_letAnswerArrive_67 0 rfl ?_
      refine j_get cx (pc := 68) 0 0 rfl rfl (C := RX2) (T := TX2) (N := 12) rfl hinX2 7 (by decide) f21 rfl (v := .ref (ad 3)) rfl dX2_letAnswerArrive_68 ?_
      refine j_iload_n cx (pc := 71) dX2_letAnswerArrive_71 1 rfl ?_
      refine j_iconst cx (pc := 72) (v := (nI 1)) dX2_letAnswerArrive_72 (by decide) ?_
      refine j_isubN cx (pc := 73) (by omega) dX2_letAnswerArrive_73 ?_
      refine j_iconst cx (pc := 74) (v := (-1)) dX2_letAnswerArrive_74 (by decide) ?_
      obtain ⟨V3, hV3⟩ : ∃ z, z = up1 V2 2 (k - 1) (-1) := ⟨_, rfl⟩
      have okV3 : chOK (chU V3) := by rw [hV3]; exact okc_set (by omega) okV2
      refine j_iast cx (pc := 75) 0 3 0 rfl rfl rfl (by omega) (by decide) (Bs' := LB Y ad V3) (by rw [hV3]; rfl) dX2_letAnswerArrive_75 ?_
      refine j_aload_n cx (pc := 76) dX2_letAnswerArrive_76 0 rfl ?_
      refine j_get cx (pc := 77) 0 0 rfl rfl (C := RX2) (T := TX2) (N := 12) rfl hinX2 6 (by decide) f17 rfl (v := .ref (ad 2)) rfl dX2_letAnswerArrive_77 ?_
      refine j_iload_n cx (pc := 80) dX2_letAnswerArrive_80 1 rfl ?_
      refine j_iconst cx (pc := 81) (v := (nI 1)) dX2_letAnswerArrive_81 (by decide) ?_
      refine j_isubN cx (pc := 82) (by omega) dX2_letAnswerArrive_82 ?_
      refine j_aald cx (pc := 83) 0 2 3 rfl rfl rfl (by omega) (by decide) (a' := (ad (13 + 2 * (k - 1)))) rfl dX2_letAnswerArrive_83 ?_
      refine j_get cx (pc := 84) (3 + (k - 1)) 0 (LB_lk Y ad V3 (by omega)) rfl (C := RX3) (T := TX3) (N := 10) rfl hinX3 8 (by decide) f161 rfl (v := .int (V3 (11 + (k - 1)) 7)) rfl dX2_letAnswerArrive_84 ?_
      refine j_if_eq cx (pc := 87) (tgt := 97) dX2_letAnswerArrive_87 (by decide) (fun c87_3 => ?_) (fun c87_3 => ?_)
      · skip
        subst hQ; exact j_vret cx hr (by subst hV3; subst hV2; subst hV1; simp only [C2_letAnswerArrive, if_neg c11_1, if_neg (Nat.ne_of_gt c64_2), if_pos c87_3]) hA dX2_letAnswerArrive_97
      · skip
        refine j_aload_n cx (pc := 90) dX2_letAnswerArrive_90 0 rfl ?_
        refine j_iload_n cx (pc := 91) dX2_letAnswerArrive_91 1 rfl ?_
        refine j_iconst cx (pc := 92) (v := (nI 1)) dX2_letAnswerArrive_92 (by decide) ?_
        refine j_isubN cx (pc := 93) (by omega) dX2_letAnswerArrive_93 ?_
        obtain ⟨V4, hV4⟩ : ∃ z, z = (C2_takeWord V3 (k - 1)) := ⟨_, rfl⟩
        have okV4 : chOK (chU V4) := by rw [hV4]; exact ok_takeWord (by omega) okV3
        refine j_callv cx (pc := 94) 1 (c_X2_takeWord l D Y ad V3 (k - 1) (by omega) okV3) gX2_letAnswerArrive_X2_takeWord rfl (by decide +kernel) rfl ⟨Nat.le_of_ble_eq_true rfl, Nat.le_of_ble_eq_true rfl⟩ [0, 1, 2, 3, 4, 5, 6, 7, 8, 9, 10, 11] rfl (by decide) (Bs' := LB Y ad V4) (by rw [hV4]; exact P1_ln V3 (C2_takeWord V3 (k - 1))) A1_ln 0 0 rfl rfl rfl rfl (Nat.le_of_ble_eq_true rfl) dX2_letAnswerArrive_94 ⟨Nat.zero_le _, Nat.zero_le _⟩ ?_
        subst hQ; exact j_vret cx hr (by subst hV4; subst hV3; subst hV2; subst hV1; simp only [C2_letAnswerArrive, if_neg c11_1, if_neg (Nat.ne_of_gt c64_2), if_neg c87_3]) hA dX2_letAnswerArrive_97
  · skip
    refine j_aload_n cx (pc := 14) dX2_letAnswerArrive_14 0 rfl ?_
    refine j_get cx (pc := 15) 0 0 rfl rfl (C := RX2) (T := TX2) (N := 12) rfl hinX2 6 (by decide) f17 rfl (v := .ref (ad 2)) rfl dX2_letAnswerArrive_15 ?_
    refine j_iload_n cx (pc := 18) dX2_letAnswerArrive_18 1 rfl ?_
    refine j_aald cx (pc := 19) 0 2 3 rfl rfl rfl (by omega) (by decide) (a' := (ad (13 + 2 * k))) rfl dX2_letAnswerArrive_19 ?_
    refine j_iconst cx (pc := 20) (v := (nI 1)) dX2_letAnswerArrive_20 (by decide) ?_
    obtain ⟨V5, hV5⟩ : ∃ z, z = up1 V1 (11 + k) 6 (nI 1) := ⟨_, rfl⟩
    have okV5 : chOK (chU V5) := by rw [hV5]; exact okc_set (by omega) okV1
    refine j_put cx (pc := 21) (3 + k) 0 (LB_lk Y ad V1 hk) rfl (C := RX3) (T := TX3) (N := 10) rfl hinX3 tyX3 tyX3_ok nmX3 7 (by decide) f99 rfl rfl rfl rfl (Nat.le_of_ble_eq_true rfl) (Bs' := LB Y ad V5) (by rw [hV5]; exact LB_lkF Y ad V1 hk (upd (V1 (11 + k)) 6 (nI 1))) dX2_letAnswerArrive_21 ?_
    refine j_iload_n cx (pc := 24) dX2_letAnswerArrive_24 1 rfl ?_
    refine j_ifN_ne cx (pc := 25) (by omega) (tgt := 35) dX2_letAnswerArrive_25 (by decide) (fun c25_4 => ?_) (fun c25_4 => ?_)
    · skip
      refine j_aload_n cx (pc := 35) dX2_letAnswerArrive_35 0 rfl ?_
      refine j_get cx (pc := 36) 0 0 rfl rfl (C := RX2) (T := TX2) (N := 12) rfl hinX2 7 (by decide) f21 rfl (v := .ref (ad 3)) rfl dX2_letAnswerArrive_36 ?_
      refine j_iload_n cx (pc := 39) dX2_letAnswerArrive_39 1 rfl ?_
      refine j_iconst cx (pc := 40) (v := (nI 1)) dX2_letAnswerArrive_40 (by decide) ?_
      refine j_isubN cx (pc := 41) (by omega) dX2_letAnswerArrive_41 ?_
      refine j_iald cx (pc := 42) 0 3 0 rfl rfl rfl (by omega) (by decide) dX2_letAnswerArrive_42 ?_
      refine j_istore_n cx (pc := 43) (lv' := [(3, .int (V5 2 (k - 1))), (0, .ref (ad 0)), (1, .int (nI k)), (2, .int value)]) dX2_letAnswerArrive_43 (by decide) rfl ?_
      refine j_iload_n cx (pc := 44) dX2_letAnswerArrive_44 0 rfl ?_
      refine j_iconst cx (pc := 45) (v := (-1)) dX2_letAnswerArrive_45 (by decide) ?_
      refine j_icmp_eq cx (pc := 46) (tgt := 55) dX2_letAnswerArrive_46 (by decide) (fun c46_5 => ?_) (fun c46_5 => ?_)
      · skip
        subst hQ; exact j_vret cx hr (by subst hV5; subst hV1; simp only [C2_letAnswerArrive, if_pos c11_1, if_neg c25_4, if_pos c46_5]) hA dX2_letAnswerArrive_55
      · skip
        refine j_aload_n cx (pc := 49) dX2_letAnswerArrive_49 1 rfl ?_
        refine j_iload_n cx (pc := 50) dX2_letAnswerArrive_50 2 rfl ?_
        refine j_iload_n cx (pc := 51) dX2_letAnswerArrive_51 0 rfl ?_
        obtain ⟨V6, hV6⟩ : ∃ z, z = (C2_offer V5 k (V5 2 (k - 1))) := ⟨_, rfl⟩
        have okV6 : chOK (chU V6) := by rw [hV6]; exact ok_offer (by omega) okV5
        refine j_callv cx (pc := 52) 2 (c_X2_offer l D Y ad V5 k (V5 2 (k - 1)) hk okV5) gX2_letAnswerArrive_X2_offer rfl (by decide +kernel) rfl ⟨Nat.le_of_ble_eq_true rfl, Nat.le_of_ble_eq_true rfl⟩ [0, 1, 2, 3, 4, 5, 6, 7, 8, 9, 10, 11] rfl (by decide) (Bs' := LB Y ad V6) (by rw [hV6]; exact P1_ln V5 (C2_offer V5 k (V5 2 (k - 1)))) A1_ln 0 0 rfl rfl rfl rfl (Nat.le_of_ble_eq_true rfl) dX2_letAnswerArrive_52 ⟨Nat.zero_le _, Nat.zero_le _⟩ ?_
        subst hQ; exact j_vret cx hr (by subst hV6; subst hV5; subst hV1; simp only [C2_letAnswerArrive, if_pos c11_1, if_neg c25_4, if_neg c46_5]) hA dX2_letAnswerArrive_55
    · skip
      refine j_aload_n cx (pc := 28) dX2_letAnswerArrive_28 0 rfl ?_
      obtain ⟨V7, hV7⟩ : ∃ z, z = (C2_letOneGo V5 ).2 := ⟨_, rfl⟩
      have okV7 : chOK (chU V7) := by rw [hV7]; exact ok_letOneGo okV5
      refine j_calli cx (pc := 29) 0 (c_X2_letOneGo l D Y ad V5  (by rw [hV5]; (repeat first | rw [up1_ne (by omega)] | rw [rwS_ne (by omega) (by omega)]); rw [hV1]; (repeat first | rw [up1_ne (by omega)] | rw [rwS_ne (by omega) (by omega)]); exact hof) (by rw [hV5]; (repeat first | rw [up1_ne (by omega)] | rw [rwS_ne (by omega) (by omega)]); rw [hV1]; (repeat first | rw [up1_ne (by omega)] | rw [rwS_ne (by omega) (by omega)]); exact hr0) (by rw [hV5]; (repeat first | rw [up1_ne (by omega)] | rw [rwS_ne (by omega) (by omega)]); rw [hV1]; (repeat first | rw [up1_ne (by omega)] | rw [rwS_ne (by omega) (by omega)]); exact hr1) okV5) gX2_letAnswerArrive_X2_letOneGo rfl (by decide +kernel) rfl ⟨Nat.le_of_ble_eq_true rfl, Nat.le_of_ble_eq_true rfl⟩ [0, 1, 2, 3, 4, 5, 6, 7, 8, 9, 10, 11] rfl (by decide) (Bs' := LB Y ad V7) (by rw [hV7]; exact P1_ln V5 (C2_letOneGo V5 ).2) A1_ln 0 0 rfl rfl rfl rfl (Nat.le_of_ble_eq_true rfl) dX2_letAnswerArrive_29 ⟨Nat.zero_le _, Nat.zero_le _⟩ ?_
      refine j_goto cx (pc := 32) (tgt := 43) dX2_letAnswerArrive_32 (by decide) ?_
      refine j_istore_n cx (pc := 43) (lv' := [(3, .int ((C2_letOneGo V5 ).1)), (0, .ref (ad 0)), (1, .int (nI k)), (2, .int value)]) dX2_letAnswerArrive_43 (by decide) rfl ?_
      refine j_iload_n cx (pc := 44) dX2_letAnswerArrive_44 0 rfl ?_
      refine j_iconst cx (pc := 45) (v := (-1)) dX2_letAnswerArrive_45 (by decide) ?_
      refine j_icmp_eq cx (pc := 46) (tgt := 55) dX2_letAnswerArrive_46 (by decide) (fun c46_6 => ?_) (fun c46_6 => ?_)
      · skip
        subst hQ; exact j_vret cx hr (by subst hV7; subst hV5; subst hV1; simp only [C2_letAnswerArrive, if_pos c11_1, if_pos c25_4, if_pos c46_6]) hA dX2_letAnswerArrive_55
      · skip
        refine j_aload_n cx (pc := 49) dX2_letAnswerArrive_49 1 rfl ?_
        refine j_iload_n cx (pc := 50) dX2_letAnswerArrive_50 2 rfl ?_
        refine j_iload_n cx (pc := 51) dX2_letAnswerArrive_51 0 rfl ?_
        obtain ⟨V8, hV8⟩ : ∃ z, z = (C2_offer V7 k ((C2_letOneGo V5 ).1)) := ⟨_, rfl⟩
        have okV8 : chOK (chU V8) := by rw [hV8]; exact ok_offer (by omega) okV7
        refine j_callv cx (pc := 52) 2 (c_X2_offer l D Y ad V7 k ((C2_letOneGo V5 ).1) hk okV7) gX2_letAnswerArrive_X2_offer rfl (by decide +kernel) rfl ⟨Nat.le_of_ble_eq_true rfl, Nat.le_of_ble_eq_true rfl⟩ [0, 1, 2, 3, 4, 5, 6, 7, 8, 9, 10, 11] rfl (by decide) (Bs' := LB Y ad V8) (by rw [hV8]; exact P1_ln V7 (C2_offer V7 k ((C2_letOneGo V5 ).1))) A1_ln 0 0 rfl rfl rfl rfl (Nat.le_of_ble_eq_true rfl) dX2_letAnswerArrive_52 ⟨Nat.zero_le _, Nat.zero_le _⟩ ?_
        subst hQ; exact j_vret cx hr (by subst hV8; subst hV7; subst hV5; subst hV1; simp only [C2_letAnswerArrive, if_pos c11_1, if_pos c25_4, if_neg c46_6]) hA dX2_letAnswerArrive_55
theorem rwS_ok0 {V V1 U : Nat → Nat → Int32} {k : Nat} (h0 : vp_in (V 27 0) 21) (hk : k < 2) (hu : vp_in (U 0 0) 21) (e : V1 = rwS V k U) : vp_in (V1 27 0) 21 := by
  subst e
  match k, hk with
  | 0, _ => exact hu
  | 1, _ => exact h0
theorem rwS_ok1 {V V1 U : Nat → Nat → Int32} {k : Nat} (h0 : vp_in (V 28 0) 21) (hk : k < 2) (hu : vp_in (U 0 0) 21) (e : V1 = rwS V k U) : vp_in (V1 28 0) 21 := by
  subst e
  match k, hk with
  | 0, _ => exact h0
  | 1, _ => exact hu
def C2_addWord (V : Nat → Nat → Int32) (sender : Int32) (word : Int32) : Int32 × (Nat → Nat → Int32) :=
  if sender < 0 then
    ((-1), V)
  else
    if sender < (nI 2) then
      if word < 0 then
        ((-2), V)
      else
        if word ≤ (nI 15) then
          let sn := tN sender
          if (V (27 + sn) 0) < (nI 20) then
            let V1 := rwS V sn (C5_append (rwU V sn) word)
            if (V1 11 6) = 0 then
              ((V1 (27 + sn) 0), V1)
            else
              let V2 := (C2_letOneGo V1 ).2
              let V3 := (C2_offer V2 0 ((C2_letOneGo V1 ).1))
              ((V3 (27 + sn) 0), V3)
          else
            ((-3), V)
        else
          ((-2), V)
    else
      ((-1), V)
set_option maxHeartbeats 4000000 in
set_option maxRecDepth 100000 in
theorem c_X2_addWord (l : Launch) (D : va_G) (Y : Nat → ClassId) (ad : Nat → Nat) (V : Nat → Nat → Int32) (sender : Int32) (word : Int32) (hof : ¬ V 0 3 < 0) (hr0 : vp_in (V 27 0) 21) (hr1 : vp_in (V 28 0) 21) (hh : chOK (chU V)) : CtI l yX2_addWord wsX2_addWord 3 73 D (tyL Y) (LB Y ad V) [.ref (ad 0), .int sender, .int word] (C2_addWord V sender word).1 (LB Y ad (C2_addWord V sender word).2) := by
  refine CtI.intro (own := RX2) (cc := cX2_addWord) (maxL := 4) rfl (by decide +kernel) rfl (Nat.le_of_ble_eq_true rfl) (fun p e s m args below meth c A Q hA hQ cx hr => ?_)
  have hinX2 : ∀ w ∈ wsX20, w ∈ wsX2_addWord := by decide +kernel
  have hinX3 : ∀ w ∈ wsX30, w ∈ wsX2_addWord := by decide +kernel
  have hinX5 : ∀ w ∈ wsX50, w ∈ wsX2_addWord := by decide +kernel
  have f17 : Cond.fieldLink RX2 17 "FourPhases$Line" "links" "[LFourPhases$Link;" ∈ wsX2_addWord := by decide +kernel
  have f26 : Cond.fieldLink RX2 26 "FourPhases$Line" "rows" "[LFourPhases$Row;" ∈ wsX2_addWord := by decide +kernel
  have f72 : Cond.fieldLink RX2 72 "FourPhases$Row" "count" "I" ∈ wsX2_addWord := by decide +kernel
  have f99 : Cond.fieldLink RX2 99 "FourPhases$Link" "atRest" "Z" ∈ wsX2_addWord := by decide +kernel
  refine j_iload_n cx (pc := 0) dX2_addWord_0 1 rfl ?_
  refine j_if_lt cx (pc := 1) (tgt := 9) dX2_addWord_1 (by decide) (fun c1_1 => ?_) (fun c1_1 => ?_)
  · skip
    refine j_iconst cx (pc := 9) (v := (-1)) dX2_addWord_9 (by decide) ?_
    subst hQ; exact j_iret cx hr (by simp only [C2_addWord, if_pos c1_1]) (by simp only [C2_addWord, if_pos c1_1]) hA dX2_addWord_10
  · skip
    refine j_iload_n cx (pc := 4) dX2_addWord_4 1 rfl ?_
    refine j_iconst cx (pc := 5) (v := (nI 2)) dX2_addWord_5 (by decide) ?_
    refine j_icmp_lt cx (pc := 6) (tgt := 11) dX2_addWord_6 (by decide) (fun c6_2 => ?_) (fun c6_2 => ?_)
    · skip
      refine j_iload_n cx (pc := 11) dX2_addWord_11 2 rfl ?_
      refine j_if_lt cx (pc := 12) (tgt := 21) dX2_addWord_12 (by decide) (fun c12_3 => ?_) (fun c12_3 => ?_)
      · skip
        refine j_bipush cx (pc := 21) (v := (-2)) dX2_addWord_21 (by decide) ?_
        subst hQ; exact j_iret cx hr (by simp only [C2_addWord, if_neg c1_1, if_pos c6_2, if_pos c12_3]) (by simp only [C2_addWord, if_neg c1_1, if_pos c6_2, if_pos c12_3]) hA dX2_addWord_23
      · skip
        refine j_iload_n cx (pc := 15) dX2_addWord_15 2 rfl ?_
        refine j_bipush cx (pc := 16) (v := (nI 15)) dX2_addWord_16 (by decide) ?_
        refine j_icmp_le cx (pc := 18) (tgt := 24) dX2_addWord_18 (by decide) (fun c18_4 => ?_) (fun c18_4 => ?_)
        · skip
          obtain ⟨sn, hsn⟩ : ∃ z : Nat, z = tN sender := ⟨_, rfl⟩
          have hsn0 := lt2_of (by decide) c1_1 c6_2
          have hsn1 : sender = nI sn := by rw [hsn]; exact hsn0.1
          have hsn2 : sn < 2 := by rw [hsn]; exact hsn0.2
          refine j_aload_n cx (pc := 24) dX2_addWord_24 0 rfl ?_
          refine j_get cx (pc := 25) 0 0 rfl rfl (C := RX2) (T := TX2) (N := 12) rfl hinX2 8 (by decide) f26 rfl (v := .ref (ad 4)) rfl dX2_addWord_25 ?_
          refine j_iload_n cx (pc := 28) dX2_addWord_28 1 rfl ?_
          refine j_top (show sender = (nI sn) from hsn1) ?_
          refine j_aald cx (pc := 29) 0 4 4 rfl rfl rfl (by omega) (by decide) (a' := (ad (27 + 2 * sn))) rfl dX2_addWord_29 ?_
          refine j_astore_n cx (pc := 30) (lv' := [(3, .ref (ad (27 + 2 * sn))), (0, .ref (ad 0)), (1, .int sender), (2, .int word)]) dX2_addWord_30 (by decide) rfl ?_
          refine j_aload_n cx (pc := 31) dX2_addWord_31 0 rfl ?_
          refine j_get cx (pc := 32) (10 + sn) 0 (LB_rw Y ad V hsn2) rfl (C := RX5) (T := TX5) (N := 2) rfl hinX5 1 (by decide) f72 rfl (v := .int (V (27 + sn) 0)) rfl dX2_addWord_32 ?_
          refine j_bipush cx (pc := 35) (v := (nI 20)) dX2_addWord_35 (by decide) ?_
          refine j_icmp_lt cx (pc := 37) (tgt := 43) dX2_addWord_37 (by decide) (fun c37_5 => ?_) (fun c37_5 => ?_)
          · skip
            refine j_aload_n cx (pc := 43) dX2_addWord_43 0 rfl ?_
            refine j_iload_n cx (pc := 44) dX2_addWord_44 3 rfl ?_
            obtain ⟨V1, hV1⟩ : ∃ z, z = rwS V sn (C5_append (rwU V sn) word) := ⟨_, rfl⟩
            have okV1 : chOK (chU V1) := by rw [hV1]; exact ok_rwS hh
            refine j_callv cx (pc := 45) 1 (c_X5_append l D Y (ad (27 + 2 * sn)) (ad (28 + 2 * sn)) (rwU V sn) word (rw_ok hr0 hr1 hsn2)) gX2_addWord_X5_append rfl (by decide +kernel) rfl ⟨Nat.le_of_ble_eq_true rfl, Nat.le_of_ble_eq_true rfl⟩ [(10 + sn)] (LB_rw_sel Y ad V hsn2) rfl (Bs' := LB Y ad V1) (by rw [hV1]; exact P1_rw Y ad V (C5_append (rwU V sn) word) (k := sn) hsn2) A1_rw (10 + sn) 0 (LB_rw Y ad V hsn2) rfl rfl rfl (Nat.le_of_ble_eq_true rfl) dX2_addWord_45 ⟨Nat.zero_le _, Nat.zero_le _⟩ ?_
            refine j_aload_n cx (pc := 48) dX2_addWord_48 1 rfl ?_
            refine j_get cx (pc := 49) 0 0 rfl rfl (C := RX2) (T := TX2) (N := 12) rfl hinX2 6 (by decide) f17 rfl (v := .ref (ad 2)) rfl dX2_addWord_49 ?_
            refine j_iconst cx (pc := 52) (v := (nI 0)) dX2_addWord_52 (by decide) ?_
            refine j_aald cx (pc := 53) 0 2 3 rfl rfl rfl (by decide) (by decide) (a' := (ad 13)) rfl dX2_addWord_53 ?_
            refine j_get cx (pc := 54) 3 0 rfl rfl (C := RX3) (T := TX3) (N := 10) rfl hinX3 7 (by decide) f99 rfl (v := .int (V1 11 6)) rfl dX2_addWord_54 ?_
            refine j_if_eq cx (pc := 57) (tgt := 69) dX2_addWord_57 (by decide) (fun c57_6 => ?_) (fun c57_6 => ?_)
            · skip
              refine j_aload_n cx (pc := 69) dX2_addWord_69 0 rfl ?_
              refine j_get cx (pc := 70) (10 + sn) 0 (LB_rw Y ad V1 hsn2) rfl (C := RX5) (T := TX5) (N := 2) rfl hinX5 1 (by decide) f72 rfl (v := .int (V1 (27 + sn) 0)) rfl dX2_addWord_70 ?_
              subst hQ; exact j_iret cx hr (by subst hV1; subst hsn; simp only [C2_addWord, if_neg c1_1, if_pos c6_2, if_neg c12_3, if_pos c18_4, if_pos c37_5, if_pos c57_6]) (by subst hV1; subst hsn; simp only [C2_addWord, if_neg c1_1, if_pos c6_2, if_neg c12_3, if_pos c18_4, if_pos c37_5, if_pos c57_6]) hA dX2_addWord_73
            · skip
              refine j_aload_n cx (pc := 60) dX2_addWord_60 1 rfl ?_
              refine j_iconst cx (pc := 61) (v := (nI 0)) dX2_addWord_61 (by decide) ?_
              refine j_aload_n cx (pc := 62) dX2_addWord_62 1 rfl ?_
              obtain ⟨V2, hV2⟩ : ∃ z, z = (C2_letOneGo V1 ).2 := ⟨_, rfl⟩
              have okV2 : chOK (chU V2) := by rw [hV2]; exact ok_letOneGo okV1
              refine j_calli cx (pc := 63) 0 (c_X2_letOneGo l D Y ad V1  (by rw [hV1]; (repeat first | rw [up1_ne (by omega)] | rw [rwS_ne (by omega) (by omega)]); exact hof) (rwS_ok0 (U := C5_append (rwU V sn) word) hr0 hsn2 (app_ok (U := rwU V sn) (word := word) (rw_ok hr0 hr1 hsn2)) hV1) (rwS_ok1 (U := C5_append (rwU V sn) word) hr1 hsn2 (app_ok (U := rwU V sn) (word := word) (rw_ok hr0 hr1 hsn2)) hV1) okV1) gX2_addWord_X2_letOneGo rfl (by decide +kernel) rfl ⟨Nat.le_of_ble_eq_true rfl, Nat.le_of_ble_eq_true rfl⟩ [0, 1, 2, 3, 4, 5, 6, 7, 8, 9, 10, 11] rfl (by decide) (Bs' := LB Y ad V2) (by rw [hV2]; exact P1_ln V1 (C2_letOneGo V1 ).2) A1_ln 0 0 rfl rfl rfl rfl (Nat.le_of_ble_eq_true rfl) dX2_addWord_63 ⟨Nat.zero_le _, Nat.zero_le _⟩ ?_
              obtain ⟨V3, hV3⟩ : ∃ z, z = (C2_offer V2 0 ((C2_letOneGo V1 ).1)) := ⟨_, rfl⟩
              have okV3 : chOK (chU V3) := by rw [hV3]; exact ok_offer (by omega) okV2
              refine j_callv cx (pc := 66) 2 (c_X2_offer l D Y ad V2 0 ((C2_letOneGo V1 ).1) (by decide) okV2) gX2_addWord_X2_offer rfl (by decide +kernel) rfl ⟨Nat.le_of_ble_eq_true rfl, Nat.le_of_ble_eq_true rfl⟩ [0, 1, 2, 3, 4, 5, 6, 7, 8, 9, 10, 11] rfl (by decide) (Bs' := LB Y ad V3) (by rw [hV3]; exact P1_ln V2 (C2_offer V2 0 ((C2_letOneGo V1 ).1))) A1_ln 0 0 rfl rfl rfl rfl (Nat.le_of_ble_eq_true rfl) dX2_addWord_66 ⟨Nat.zero_le _, Nat.zero_le _⟩ ?_
              refine j_aload_n cx (pc := 69) dX2_addWord_69 0 rfl ?_
              refine j_get cx (pc := 70) (10 + sn) 0 (LB_rw Y ad V3 hsn2) rfl (C := RX5) (T := TX5) (N := 2) rfl hinX5 1 (by decide) f72 rfl (v := .int (V3 (27 + sn) 0)) rfl dX2_addWord_70 ?_
              subst hQ; exact j_iret cx hr (by subst hV3; subst hV2; subst hV1; subst hsn; simp only [C2_addWord, if_neg c1_1, if_pos c6_2, if_neg c12_3, if_pos c18_4, if_pos c37_5, if_neg c57_6]) (by subst hV3; subst hV2; subst hV1; subst hsn; simp only [C2_addWord, if_neg c1_1, if_pos c6_2, if_neg c12_3, if_pos c18_4, if_pos c37_5, if_neg c57_6]) hA dX2_addWord_73
          · skip
            refine j_bipush cx (pc := 40) (v := (-3)) dX2_addWord_40 (by decide) ?_
            subst hQ; exact j_iret cx hr (by subst hsn; simp only [C2_addWord, if_neg c1_1, if_pos c6_2, if_neg c12_3, if_pos c18_4, if_neg c37_5]) (by subst hsn; simp only [C2_addWord, if_neg c1_1, if_pos c6_2, if_neg c12_3, if_pos c18_4, if_neg c37_5]) hA dX2_addWord_42
        · skip
          refine j_bipush cx (pc := 21) (v := (-2)) dX2_addWord_21 (by decide) ?_
          subst hQ; exact j_iret cx hr (by simp only [C2_addWord, if_neg c1_1, if_pos c6_2, if_neg c12_3, if_neg c18_4]) (by simp only [C2_addWord, if_neg c1_1, if_pos c6_2, if_neg c12_3, if_neg c18_4]) hA dX2_addWord_23
    · skip
      refine j_iconst cx (pc := 9) (v := (-1)) dX2_addWord_9 (by decide) ?_
      subst hQ; exact j_iret cx hr (by simp only [C2_addWord, if_neg c1_1, if_neg c6_2]) (by simp only [C2_addWord, if_neg c1_1, if_neg c6_2]) hA dX2_addWord_10
def C2_changeDelay (V : Nat → Nat → Int32) (link : Int32) (wire : Int32) (delay : Int32) : Int32 × (Nat → Nat → Int32) :=
  if (C2_hasLink V link) = 0 then
    ((-1), V)
  else
    if wire < 0 then
      ((-1), V)
    else
      if wire < (nI 3) then
        if delay < (nI 1) then
          ((-2), V)
        else
          if delay ≤ (nI 20) then
            let lk := tN link
            let wr := tN wire
            if (V (18 + lk) wr) = delay then
              ((-5), V)
            else
              let V1 := up1 V (18 + lk) wr delay
              ((V (18 + lk) wr), V1)
          else
            ((-2), V)
      else
        ((-1), V)
set_option maxHeartbeats 4000000 in
set_option maxRecDepth 100000 in
theorem c_X2_changeDelay (l : Launch) (D : va_G) (Y : Nat → ClassId) (ad : Nat → Nat) (V : Nat → Nat → Int32) (link : Int32) (wire : Int32) (delay : Int32) (hst : vp_in (V 0 0) 7) (hh : chOK (chU V)) : CtI l yX2_changeDelay wsX2_changeDelay 1 21 D (tyL Y) (LB Y ad V) [.ref (ad 0), .int link, .int wire, .int delay] (C2_changeDelay V link wire delay).1 (LB Y ad (C2_changeDelay V link wire delay).2) := by
  refine CtI.intro (own := RX2) (cc := cX2_changeDelay) (maxL := 5) rfl (by decide +kernel) rfl (Nat.le_of_ble_eq_true rfl) (fun p e s m args below meth c A Q hA hQ cx hr => ?_)
  have hinX2 : ∀ w ∈ wsX20, w ∈ wsX2_changeDelay := by decide +kernel
  have hinX3 : ∀ w ∈ wsX30, w ∈ wsX2_changeDelay := by decide +kernel
  have f17 : Cond.fieldLink RX2 17 "FourPhases$Line" "links" "[LFourPhases$Link;" ∈ wsX2_changeDelay := by decide +kernel
  have f115 : Cond.fieldLink RX2 115 "FourPhases$Link" "delays" "[I" ∈ wsX2_changeDelay := by decide +kernel
  refine j_aload_n cx (pc := 0) dX2_changeDelay_0 0 rfl ?_
  refine j_iload_n cx (pc := 1) dX2_changeDelay_1 1 rfl ?_
  refine j_calli cx (pc := 2) 1 (c_X2_hasLink l D Y ad V link ) gX2_changeDelay_X2_hasLink rfl (by decide +kernel) rfl ⟨Nat.le_of_ble_eq_true rfl, Nat.le_of_ble_eq_true rfl⟩ [0, 1, 2, 3, 4, 5, 6, 7, 8, 9, 10, 11] rfl (by decide) (Bs' := LB Y ad V) rfl rfl 0 0 rfl rfl rfl rfl (Nat.le_of_ble_eq_true rfl) dX2_changeDelay_2 ⟨Nat.zero_le _, Nat.zero_le _⟩ ?_
  refine j_if_eq cx (pc := 5) (tgt := 17) dX2_changeDelay_5 (by decide) (fun c5_1 => ?_) (fun c5_1 => ?_)
  · skip
    refine j_iconst cx (pc := 17) (v := (-1)) dX2_changeDelay_17 (by decide) ?_
    subst hQ; exact j_iret cx hr (by simp only [C2_changeDelay, if_pos c5_1]) (by simp only [C2_changeDelay, if_pos c5_1]) hA dX2_changeDelay_18
  · skip
    refine j_iload_n cx (pc := 8) dX2_changeDelay_8 2 rfl ?_
    refine j_if_lt cx (pc := 9) (tgt := 17) dX2_changeDelay_9 (by decide) (fun c9_2 => ?_) (fun c9_2 => ?_)
    · skip
      refine j_iconst cx (pc := 17) (v := (-1)) dX2_changeDelay_17 (by decide) ?_
      subst hQ; exact j_iret cx hr (by simp only [C2_changeDelay, if_neg c5_1, if_pos c9_2]) (by simp only [C2_changeDelay, if_neg c5_1, if_pos c9_2]) hA dX2_changeDelay_18
    · skip
      refine j_iload_n cx (pc := 12) dX2_changeDelay_12 2 rfl ?_
      refine j_iconst cx (pc := 13) (v := (nI 3)) dX2_changeDelay_13 (by decide) ?_
      refine j_icmp_lt cx (pc := 14) (tgt := 19) dX2_changeDelay_14 (by decide) (fun c14_3 => ?_) (fun c14_3 => ?_)
      · skip
        refine j_iload_n cx (pc := 19) dX2_changeDelay_19 3 rfl ?_
        refine j_iconst cx (pc := 20) (v := (nI 1)) dX2_changeDelay_20 (by decide) ?_
        refine j_icmp_lt cx (pc := 21) (tgt := 30) dX2_changeDelay_21 (by decide) (fun c21_4 => ?_) (fun c21_4 => ?_)
        · skip
          refine j_bipush cx (pc := 30) (v := (-2)) dX2_changeDelay_30 (by decide) ?_
          subst hQ; exact j_iret cx hr (by simp only [C2_changeDelay, if_neg c5_1, if_neg c9_2, if_pos c14_3, if_pos c21_4]) (by simp only [C2_changeDelay, if_neg c5_1, if_neg c9_2, if_pos c14_3, if_pos c21_4]) hA dX2_changeDelay_32
        · skip
          refine j_iload_n cx (pc := 24) dX2_changeDelay_24 3 rfl ?_
          refine j_bipush cx (pc := 25) (v := (nI 20)) dX2_changeDelay_25 (by decide) ?_
          refine j_icmp_le cx (pc := 27) (tgt := 33) dX2_changeDelay_27 (by decide) (fun c27_5 => ?_) (fun c27_5 => ?_)
          · skip
            obtain ⟨lk, hlk⟩ : ∃ z : Nat, z = tN link := ⟨_, rfl⟩
            have hlk0 := hl_ok hst c5_1
            have hlk1 : link = nI lk := by rw [hlk]; exact hlk0.1
            have hlk2 : lk < 7 := by rw [hlk]; exact hlk0.2.1
            obtain ⟨wr, hwr⟩ : ∃ z : Nat, z = tN wire := ⟨_, rfl⟩
            have hwr0 := lt2_of (by decide) c9_2 c14_3
            have hwr1 : wire = nI wr := by rw [hwr]; exact hwr0.1
            have hwr2 : wr < 3 := by rw [hwr]; exact hwr0.2
            refine j_aload_n cx (pc := 33) dX2_changeDelay_33 0 rfl ?_
            refine j_get cx (pc := 34) 0 0 rfl rfl (C := RX2) (T := TX2) (N := 12) rfl hinX2 6 (by decide) f17 rfl (v := .ref (ad 2)) rfl dX2_changeDelay_34 ?_
            refine j_iload_n cx (pc := 37) dX2_changeDelay_37 1 rfl ?_
            refine j_top (show link = (nI lk) from hlk1) ?_
            refine j_aald cx (pc := 38) 0 2 3 rfl rfl rfl (by omega) (by decide) (a' := (ad (13 + 2 * lk))) rfl dX2_changeDelay_38 ?_
            refine j_get cx (pc := 39) (3 + lk) 0 (LB_lk Y ad V hlk2) rfl (C := RX3) (T := TX3) (N := 10) rfl hinX3 0 (by decide) f115 rfl (v := .ref (ad (14 + 2 * lk))) rfl dX2_changeDelay_39 ?_
            refine j_iload_n cx (pc := 42) dX2_changeDelay_42 2 rfl ?_
            refine j_top (show wire = (nI wr) from hwr1) ?_
            refine j_iald cx (pc := 43) (3 + lk) 1 0 (LB_lk Y ad V hlk2) rfl rfl (by omega) (by decide) dX2_changeDelay_43 ?_
            refine j_istore cx (pc := 44) (lv' := [(4, .int (V (18 + lk) wr)), (0, .ref (ad 0)), (1, .int link), (2, .int wire), (3, .int delay)]) dX2_changeDelay_44 (by decide) rfl ?_
            refine j_iload cx (pc := 46) dX2_changeDelay_46 0 rfl ?_
            refine j_iload_n cx (pc := 48) dX2_changeDelay_48 4 rfl ?_
            refine j_icmp_ne cx (pc := 49) (tgt := 55) dX2_changeDelay_49 (by decide) (fun c49_6 => ?_) (fun c49_6 => ?_)
            · skip
              refine j_aload_n cx (pc := 55) dX2_changeDelay_55 1 rfl ?_
              refine j_get cx (pc := 56) 0 0 rfl rfl (C := RX2) (T := TX2) (N := 12) rfl hinX2 6 (by decide) f17 rfl (v := .ref (ad 2)) rfl dX2_changeDelay_56 ?_
              refine j_iload_n cx (pc := 59) dX2_changeDelay_59 2 rfl ?_
              refine j_top (show link = (nI lk) from hlk1) ?_
              refine j_aald cx (pc := 60) 0 2 3 rfl rfl rfl (by omega) (by decide) (a' := (ad (13 + 2 * lk))) rfl dX2_changeDelay_60 ?_
              refine j_get cx (pc := 61) (3 + lk) 0 (LB_lk Y ad V hlk2) rfl (C := RX3) (T := TX3) (N := 10) rfl hinX3 0 (by decide) f115 rfl (v := .ref (ad (14 + 2 * lk))) rfl dX2_changeDelay_61 ?_
              refine j_iload_n cx (pc := 64) dX2_changeDelay_64 3 rfl ?_
              refine j_top (show wire = (nI wr) from hwr1) ?_
              refine j_iload_n cx (pc := 65) dX2_changeDelay_65 4 rfl ?_
              obtain ⟨V1, hV1⟩ : ∃ z, z = up1 V (18 + lk) wr delay := ⟨_, rfl⟩
              have okV1 : chOK (chU V1) := by rw [hV1]; exact okc_set (by omega) hh
              refine j_iast cx (pc := 66) (3 + lk) 1 0 (LB_lk Y ad V hlk2) rfl rfl (by omega) (by decide) (Bs' := LB Y ad V1) (by rw [hV1]; exact LB_lkG Y ad V hlk2 (upd (V (18 + lk)) wr delay)) dX2_changeDelay_66 ?_
              refine j_iload cx (pc := 67) dX2_changeDelay_67 0 rfl ?_
              subst hQ; exact j_iret cx hr (by subst hV1; subst hwr; subst hlk; simp only [C2_changeDelay, if_neg c5_1, if_neg c9_2, if_pos c14_3, if_neg c21_4, if_pos c27_5, if_neg c49_6]) (by subst hV1; subst hwr; subst hlk; simp only [C2_changeDelay, if_neg c5_1, if_neg c9_2, if_pos c14_3, if_neg c21_4, if_pos c27_5, if_neg c49_6]) hA dX2_changeDelay_69
            · skip
              refine j_bipush cx (pc := 52) (v := (-5)) dX2_changeDelay_52 (by decide) ?_
              subst hQ; exact j_iret cx hr (by subst hwr; subst hlk; simp only [C2_changeDelay, if_neg c5_1, if_neg c9_2, if_pos c14_3, if_neg c21_4, if_pos c27_5, if_pos c49_6]) (by subst hwr; subst hlk; simp only [C2_changeDelay, if_neg c5_1, if_neg c9_2, if_pos c14_3, if_neg c21_4, if_pos c27_5, if_pos c49_6]) hA dX2_changeDelay_54
          · skip
            refine j_bipush cx (pc := 30) (v := (-2)) dX2_changeDelay_30 (by decide) ?_
            subst hQ; exact j_iret cx hr (by simp only [C2_changeDelay, if_neg c5_1, if_neg c9_2, if_pos c14_3, if_neg c21_4, if_neg c27_5]) (by simp only [C2_changeDelay, if_neg c5_1, if_neg c9_2, if_pos c14_3, if_neg c21_4, if_neg c27_5]) hA dX2_changeDelay_32
      · skip
        refine j_iconst cx (pc := 17) (v := (-1)) dX2_changeDelay_17 (by decide) ?_
        subst hQ; exact j_iret cx hr (by simp only [C2_changeDelay, if_neg c5_1, if_neg c9_2, if_neg c14_3]) (by simp only [C2_changeDelay, if_neg c5_1, if_neg c9_2, if_neg c14_3]) hA dX2_changeDelay_18
