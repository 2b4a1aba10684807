def C8_doesOrder (M : Nat → Nat → Int32)  : Int32 × (Nat → Nat → Int32) :=
  if (M 0 4) = nI 46 then
    let V1 := (C8_runs M (M 0 6)).2
    (((C8_runs M (M 0 6)).1), V1)
  else
    if (M 0 4) = nI 97 then
      let V2 := (C8_adds M ((M 0 4) - (nI 97)) (M 0 6)).2
      (((C8_adds M ((M 0 4) - (nI 97)) (M 0 6)).1), V2)
    else
      if (M 0 4) = nI 98 then
        let V3 := (C8_adds M ((M 0 4) - (nI 97)) (M 0 6)).2
        (((C8_adds M ((M 0 4) - (nI 97)) (M 0 6)).1), V3)
      else
        if (M 0 4) = (nI 114) then
          let V6 := (C8_setsDelay M (M 0 5) (nI 0) (M 0 6)).2
          (((C8_setsDelay M (M 0 5) (nI 0) (M 0 6)).1), V6)
        else
          if (M 0 4) = (nI 107) then
            let V5 := (C8_setsDelay M (M 0 5) (nI 1) (M 0 6)).2
            (((C8_setsDelay M (M 0 5) (nI 1) (M 0 6)).1), V5)
          else
            let V4 := (C8_setsDelay M (M 0 5) (nI 2) (M 0 6)).2
            (((C8_setsDelay M (M 0 5) (nI 2) (M 0 6)).1), V4)
set_option maxHeartbeats 4000000 in
set_option maxRecDepth 100000 in
theorem c_X8_doesOrder (l : Launch) (D : va_G) (Y : Nat → ClassId) (mo : Nat → Nat) (M : Nat → Nat → Int32)  (hm0 : vp_in (M 1 11) 21) (hm1 : vp_in (M 1 12) 21) (hpd : vp_in (M 1 9) 20) (hn : vp_in (M 1 10) 99) (hok : ¬ C8_within (M 0 6) (nI 1) (nI 1000) = 0 → (M 1 4) + (M 0 6) ≤ nI 1000000 → gtoOK ((M 1 4) + (M 0 6)) 5000 M) (hst : vp_in (M 1 3) 7) : CtI l yX8_doesOrder wsX8_doesOrder 7 166 D (tyL Y) ([moB Y mo M]) [.ref (mo 0)] (C8_doesOrder M ).1 ([moB Y mo (C8_doesOrder M ).2]) := by
  refine CtI.intro (own := RX8) (cc := cX8_doesOrder) (maxL := 1) rfl (by decide +kernel) rfl (Nat.le_of_ble_eq_true rfl) (fun p e s m args below meth c A Q hA hQ cx hr => ?_)
  have hinX8 : ∀ w ∈ wsX80, w ∈ wsX8_doesOrder := by decide +kernel
  have f140 : Cond.fieldLink RX8 140 "FourPhasesModel" "second" "I" ∈ wsX8_doesOrder := by decide +kernel
  have f143 : Cond.fieldLink RX8 143 "FourPhasesModel" "first" "I" ∈ wsX8_doesOrder := by decide +kernel
  have f149 : Cond.fieldLink RX8 149 "FourPhasesModel" "sign" "I" ∈ wsX8_doesOrder := by decide +kernel
  refine j_aload_n cx (pc := 0) dX8_doesOrder_0 0 rfl ?_
  refine j_get cx (pc := 1) 0 0 rfl rfl (C := RX8) (T := TX8) (N := 12) rfl hinX8 9 (by decide) f149 rfl (v := .int (M 0 4)) rfl dX8_doesOrder_1 ?_
  by_cases s4_1 : (M 0 4) = nI 46
  · skip
    refine j_lookup cx (pc := 4) dX8_doesOrder_4 (by decide) (off := 52) (by rw [s4_1]; decide) (tgt := 56) (by decide) ?_
    refine j_aload_n cx (pc := 56) dX8_doesOrder_56 0 rfl ?_
    refine j_aload_n cx (pc := 57) dX8_doesOrder_57 0 rfl ?_
    refine j_get cx (pc := 58) 0 0 rfl rfl (C := RX8) (T := TX8) (N := 12) rfl hinX8 11 (by decide) f140 rfl (v := .int (M 0 6)) rfl dX8_doesOrder_58 ?_
    obtain ⟨V1, hV1⟩ : ∃ z, z = (C8_runs M (M 0 6)).2 := ⟨_, rfl⟩
    refine j_calli cx (pc := 61) 1 (c_X8_runs l D Y mo M (M 0 6) hok) gX8_doesOrder_X8_runs rfl (by decide +kernel) rfl ⟨Nat.le_of_ble_eq_true rfl, Nat.le_of_ble_eq_true rfl⟩ [0] rfl (by decide) (Bs' := [moB Y mo V1]) (by rw [hV1]; exact P1_mo M (C8_runs M (M 0 6)).2) A1_mo 0 0 rfl rfl rfl rfl (Nat.le_of_ble_eq_true rfl) dX8_doesOrder_61 ⟨Nat.zero_le _, Nat.zero_le _⟩ ?_
    subst hQ; exact j_iret cx hr (by subst hV1; simp only [C8_doesOrder, if_pos s4_1]) (by subst hV1; simp only [C8_doesOrder, if_pos s4_1]) hA dX8_doesOrder_64
  by_cases s4_2 : (M 0 4) = nI 97
  · skip
    refine j_lookup cx (pc := 4) dX8_doesOrder_4 (by decide) (off := 36) (by rw [s4_2]; decide) (tgt := 40) (by decide) ?_
    refine j_aload_n cx (pc := 40) dX8_doesOrder_40 0 rfl ?_
    refine j_aload_n cx (pc := 41) dX8_doesOrder_41 0 rfl ?_
    refine j_get cx (pc := 42) 0 0 rfl rfl (C := RX8) (T := TX8) (N := 12) rfl hinX8 9 (by decide) f149 rfl (v := .int (M 0 4)) rfl dX8_doesOrder_42 ?_
    refine j_bipush cx (pc := 45) (v := (nI 97)) dX8_doesOrder_45 (by decide) ?_
    refine j_isub cx (pc := 47) dX8_doesOrder_47 ?_
    refine j_aload_n cx (pc := 48) dX8_doesOrder_48 0 rfl ?_
    refine j_get cx (pc := 49) 0 0 rfl rfl (C := RX8) (T := TX8) (N := 12) rfl hinX8 11 (by decide) f140 rfl (v := .int (M 0 6)) rfl dX8_doesOrder_49 ?_
    obtain ⟨V2, hV2⟩ : ∃ z, z = (C8_adds M ((M 0 4) - (nI 97)) (M 0 6)).2 := ⟨_, rfl⟩
    refine j_calli cx (pc := 52) 2 (c_X8_adds l D Y mo M ((M 0 4) - (nI 97)) (M 0 6) hm0 hm1 hpd hn) gX8_doesOrder_X8_adds rfl (by decide +kernel) rfl ⟨Nat.le_of_ble_eq_true rfl, Nat.le_of_ble_eq_true rfl⟩ [0] rfl (by decide) (Bs' := [moB Y mo V2]) (by rw [hV2]; exact P1_mo M (C8_adds M ((M 0 4) - (nI 97)) (M 0 6)).2) A1_mo 0 0 rfl rfl rfl rfl (Nat.le_of_ble_eq_true rfl) dX8_doesOrder_52 ⟨Nat.zero_le _, Nat.zero_le _⟩ ?_
    subst hQ; exact j_iret cx hr (by subst hV2; simp only [C8_doesOrder, if_neg s4_1, if_pos s4_2]) (by subst hV2; simp only [C8_doesOrder, if_neg s4_1, if_pos s4_2]) hA dX8_doesOrder_55
  by_cases s4_3 : (M 0 4) = nI 98
  · skip
    refine j_lookup cx (pc := 4) dX8_doesOrder_4 (by decide) (off := 36) (by rw [s4_3]; decide) (tgt := 40) (by decide) ?_
    refine j_aload_n cx (pc := 40) dX8_doesOrder_40 0 rfl ?_
    refine j_aload_n cx (pc := 41) dX8_doesOrder_41 0 rfl ?_
    refine j_get cx (pc := 42) 0 0 rfl rfl (C := RX8) (T := TX8) (N := 12) rfl hinX8 9 (by decide) f149 rfl (v := .int (M 0 4)) rfl dX8_doesOrder_42 ?_
    refine j_bipush cx (pc := 45) (v := (nI 97)) dX8_doesOrder_45 (by decide) ?_
    refine j_isub cx (pc := 47) dX8_doesOrder_47 ?_
    refine j_aload_n cx (pc := 48) dX8_doesOrder_48 0 rfl ?_
    refine j_get cx (pc := 49) 0 0 rfl rfl (C := RX8) (T := TX8) (N := 12) rfl hinX8 11 (by decide) f140 rfl (v := .int (M 0 6)) rfl dX8_doesOrder_49 ?_
    obtain ⟨V3, hV3⟩ : ∃ z, z = (C8_adds M ((M 0 4) - (nI 97)) (M 0 6)).2 := ⟨_, rfl⟩
    refine j_calli cx (pc := 52) 2 (c_X8_adds l D Y mo M ((M 0 4) - (nI 97)) (M 0 6) hm0 hm1 hpd hn) gX8_doesOrder_X8_adds rfl (by decide +kernel) rfl ⟨Nat.le_of_ble_eq_true rfl, Nat.le_of_ble_eq_true rfl⟩ [0] rfl (by decide) (Bs' := [moB Y mo V3]) (by rw [hV3]; exact P1_mo M (C8_adds M ((M 0 4) - (nI 97)) (M 0 6)).2) A1_mo 0 0 rfl rfl rfl rfl (Nat.le_of_ble_eq_true rfl) dX8_doesOrder_52 ⟨Nat.zero_le _, Nat.zero_le _⟩ ?_
    subst hQ; exact j_iret cx hr (by subst hV3; simp only [C8_doesOrder, if_neg s4_1, if_neg s4_2, if_pos s4_3]) (by subst hV3; simp only [C8_doesOrder, if_neg s4_1, if_neg s4_2, if_pos s4_3]) hA dX8_doesOrder_55
  refine j_lookup cx (pc := 4) dX8_doesOrder_4 (by decide) (off := 61) (sw_def _ _ _ (by intro q hq; simp only [List.mem_cons, List.not_mem_nil, or_false] at hq; rcases hq with rfl | rfl | rfl; exact ne_toInt (by decide) s4_1; exact ne_toInt (by decide) s4_2; exact ne_toInt (by decide) s4_3)) (tgt := 65) (by decide) ?_
  refine j_aload_n cx (pc := 65) dX8_doesOrder_65 0 rfl ?_
  refine j_aload_n cx (pc := 66) dX8_doesOrder_66 0 rfl ?_
  refine j_get cx (pc := 67) 0 0 rfl rfl (C := RX8) (T := TX8) (N := 12) rfl hinX8 10 (by decide) f143 rfl (v := .int (M 0 5)) rfl dX8_doesOrder_67 ?_
  refine j_aload_n cx (pc := 70) dX8_doesOrder_70 0 rfl ?_
  refine j_get cx (pc := 71) 0 0 rfl rfl (C := RX8) (T := TX8) (N := 12) rfl hinX8 9 (by decide) f149 rfl (v := .int (M 0 4)) rfl dX8_doesOrder_71 ?_
  refine j_bipush cx (pc := 74) (v := (nI 114)) dX8_doesOrder_74 (by decide) ?_
  refine j_icmp_ne cx (pc := 76) (tgt := 83) dX8_doesOrder_76 (by decide) (fun c76_4 => ?_) (fun c76_4 => ?_)
  · skip
    refine j_aload_n cx (pc := 83) dX8_doesOrder_83 0 rfl ?_
    refine j_get cx (pc := 84) 0 0 rfl rfl (C := RX8) (T := TX8) (N := 12) rfl hinX8 9 (by decide) f149 rfl (v := .int (M 0 4)) rfl dX8_doesOrder_84 ?_
    refine j_bipush cx (pc := 87) (v := (nI 107)) dX8_doesOrder_87 (by decide) ?_
    refine j_icmp_ne cx (pc := 89) (tgt := 96) dX8_doesOrder_89 (by decide) (fun c89_5 => ?_) (fun c89_5 => ?_)
    · skip
      refine j_iconst cx (pc := 96) (v := (nI 2)) dX8_doesOrder_96 (by decide) ?_
      refine j_aload_n cx (pc := 97) dX8_doesOrder_97 0 rfl ?_
      refine j_get cx (pc := 98) 0 0 rfl rfl (C := RX8) (T := TX8) (N := 12) rfl hinX8 11 (by decide) f140 rfl (v := .int (M 0 6)) rfl dX8_doesOrder_98 ?_
      obtain ⟨V4, hV4⟩ : ∃ z, z = (C8_setsDelay M (M 0 5) (nI 2) (M 0 6)).2 := ⟨_, rfl⟩
      refine j_calli cx (pc := 101) 3 (c_X8_setsDelay l D Y mo M (M 0 5) (nI 2) (M 0 6) hst) gX8_doesOrder_X8_setsDelay rfl (by decide +kernel) rfl ⟨Nat.le_of_ble_eq_true rfl, Nat.le_of_ble_eq_true rfl⟩ [0] rfl (by decide) (Bs' := [moB Y mo V4]) (by rw [hV4]; exact P1_mo M (C8_setsDelay M (M 0 5) (nI 2) (M 0 6)).2) A1_mo 0 0 rfl rfl rfl rfl (Nat.le_of_ble_eq_true rfl) dX8_doesOrder_101 ⟨Nat.zero_le _, Nat.zero_le _⟩ ?_
      subst hQ; exact j_iret cx hr (by subst hV4; simp only [C8_doesOrder, if_neg s4_1, if_neg s4_2, if_neg s4_3, if_neg c76_4, if_neg c89_5]) (by subst hV4; simp only [C8_doesOrder, if_neg s4_1, if_neg s4_2, if_neg s4_3, if_neg c76_4, if_neg c89_5]) hA dX8_doesOrder_104
    · skip
      refine j_iconst cx (pc := 92) (v := (nI 1)) dX8_doesOrder_92 (by decide) ?_
      refine j_goto cx (pc := 93) (tgt := 97) dX8_doesOrder_93 (by decide) ?_
      refine j_aload_n cx (pc := 97) dX8_doesOrder_97 0 rfl ?_
      refine j_get cx (pc := 98) 0 0 rfl rfl (C := RX8) (T := TX8) (N := 12) rfl hinX8 11 (by decide) f140 rfl (v := .int (M 0 6)) rfl dX8_doesOrder_98 ?_
      obtain ⟨V5, hV5⟩ : ∃ z, z = (C8_setsDelay M (M 0 5) (nI 1) (M 0 6)).2 := ⟨_, rfl⟩
      refine j_calli cx (pc := 101) 3 (c_X8_setsDelay l D Y mo M (M 0 5) (nI 1) (M 0 6) hst) gX8_doesOrder_X8_setsDelay rfl (by decide +kernel) rfl ⟨Nat.le_of_ble_eq_true rfl, Nat.le_of_ble_eq_true rfl⟩ [0] rfl (by decide) (Bs' := [moB Y mo V5]) (by rw [hV5]; exact P1_mo M (C8_setsDelay M (M 0 5) (nI 1) (M 0 6)).2) A1_mo 0 0 rfl rfl rfl rfl (Nat.le_of_ble_eq_true rfl) dX8_doesOrder_101 ⟨Nat.zero_le _, Nat.zero_le _⟩ ?_
      subst hQ; exact j_iret cx hr (by subst hV5; simp only [C8_doesOrder, if_neg s4_1, if_neg s4_2, if_neg s4_3, if_neg c76_4, if_pos c89_5]) (by subst hV5; simp only [C8_doesOrder, if_neg s4_1, if_neg s4_2, if_neg s4_3, if_neg c76_4, if_pos c89_5]) hA dX8_doesOrder_104
  · skip
    refine j_iconst cx (pc := 79) (v := (nI 0)) dX8_doesOrder_79 (by decide) ?_
    refine j_goto cx (pc := 80) (tgt := 97) dX8_doesOrder_80 (by decide) ?_
    refine j_aload_n cx (pc := 97) dX8_doesOrder_97 0 rfl ?_
    refine j_get cx (pc := 98) 0 0 rfl rfl (C := RX8) (T := TX8) (N := 12) rfl hinX8 11 (by decide) f140 rfl (v := .int (M 0 6)) rfl dX8_doesOrder_98 ?_
    obtain ⟨V6, hV6⟩ : ∃ z, z = (C8_setsDelay M (M 0 5) (nI 0) (M 0 6)).2 := ⟨_, rfl⟩
    refine j_calli cx (pc := 101) 3 (c_X8_setsDelay l D Y mo M (M 0 5) (nI 0) (M 0 6) hst) gX8_doesOrder_X8_setsDelay rfl (by decide +kernel) rfl ⟨Nat.le_of_ble_eq_true rfl, Nat.le_of_ble_eq_true rfl⟩ [0] rfl (by decide) (Bs' := [moB Y mo V6]) (by rw [hV6]; exact P1_mo M (C8_setsDelay M (M 0 5) (nI 0) (M 0 6)).2) A1_mo 0 0 rfl rfl rfl rfl (Nat.le_of_ble_eq_true rfl) dX8_doesOrder_101 ⟨Nat.zero_le _, Nat.zero_le _⟩ ?_
    subst hQ; exact j_iret cx hr (by subst hV6; simp only [C8_doesOrder, if_neg s4_1, if_neg s4_2, if_neg s4_3, if_pos c76_4]) (by subst hV6; simp only [C8_doesOrder, if_neg s4_1, if_neg s4_2, if_neg s4_3, if_pos c76_4]) hA dX8_doesOrder_104
