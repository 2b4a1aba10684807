theorem nf_01 (F : Nat → Nat → Nat → Int32) (V : Nat → Nat → Int32) : setF F 0 V 1 = F 1 := rfl
theorem nf_02 (F : Nat → Nat → Nat → Int32) (V : Nat → Nat → Int32) : setF F 0 V 2 = F 2 := rfl
theorem nf_07 (F : Nat → Nat → Nat → Int32) (V : Nat → Nat → Int32) : setF F 0 V 7 = F 7 := rfl
theorem nf_08 (F : Nat → Nat → Nat → Int32) (V : Nat → Nat → Int32) : setF F 0 V 8 = F 8 := rfl
theorem nf_10 (F : Nat → Nat → Nat → Int32) (V : Nat → Nat → Int32) : setF F 1 V 0 = F 0 := rfl
theorem nf_12 (F : Nat → Nat → Nat → Int32) (V : Nat → Nat → Int32) : setF F 1 V 2 = F 2 := rfl
theorem nf_17 (F : Nat → Nat → Nat → Int32) (V : Nat → Nat → Int32) : setF F 1 V 7 = F 7 := rfl
theorem nf_18 (F : Nat → Nat → Nat → Int32) (V : Nat → Nat → Int32) : setF F 1 V 8 = F 8 := rfl
theorem nf_20 (F : Nat → Nat → Nat → Int32) (V : Nat → Nat → Int32) : setF F 2 V 0 = F 0 := rfl
theorem nf_21 (F : Nat → Nat → Nat → Int32) (V : Nat → Nat → Int32) : setF F 2 V 1 = F 1 := rfl
theorem nf_27 (F : Nat → Nat → Nat → Int32) (V : Nat → Nat → Int32) : setF F 2 V 7 = F 7 := rfl
theorem nf_28 (F : Nat → Nat → Nat → Int32) (V : Nat → Nat → Int32) : setF F 2 V 8 = F 8 := rfl
theorem nf_70 (F : Nat → Nat → Nat → Int32) (V : Nat → Nat → Int32) : setF F 7 V 0 = F 0 := rfl
theorem nf_71 (F : Nat → Nat → Nat → Int32) (V : Nat → Nat → Int32) : setF F 7 V 1 = F 1 := rfl
theorem nf_72 (F : Nat → Nat → Nat → Int32) (V : Nat → Nat → Int32) : setF F 7 V 2 = F 2 := rfl
theorem nf_78 (F : Nat → Nat → Nat → Int32) (V : Nat → Nat → Int32) : setF F 7 V 8 = F 8 := rfl
theorem nf_80 (F : Nat → Nat → Nat → Int32) (V : Nat → Nat → Int32) : setF F 8 V 0 = F 0 := rfl
theorem nf_81 (F : Nat → Nat → Nat → Int32) (V : Nat → Nat → Int32) : setF F 8 V 1 = F 1 := rfl
theorem nf_82 (F : Nat → Nat → Nat → Int32) (V : Nat → Nat → Int32) : setF F 8 V 2 = F 2 := rfl
theorem nf_87 (F : Nat → Nat → Nat → Int32) (V : Nat → Nat → Int32) : setF F 8 V 7 = F 7 := rfl
def C7_accept (F : Nat → Nat → Nat → Int32) (answer : Int32) : Int32 × (Nat → Nat → Nat → Int32) :=
  if 0 ≤ answer then
    let V1 := (C1_record F )
    let V2 := setF V1 0 (C2_copyFrom (V1 0) (V1 1))
    (answer, V2)
  else
    (answer, F)
set_option maxHeartbeats 4000000 in
set_option maxRecDepth 100000 in
theorem c_X7_accept (l : Launch) (D : va_G) (Y : Nat → ClassId) (ad : Nat → Nat → Nat) (F : Nat → Nat → Nat → Int32) (answer : Int32) (hh : hiOK F) (hb : boL (F 0)) (hb1 : boL (F 1)) : CtI l yX7_accept wsX7_accept 4 104 D (tyL Y) (FB Y ad F) [.ref (ad 8 2), .int answer] (C7_accept F answer).1 (FB Y ad (C7_accept F answer).2) := by
  refine CtI.intro (own := RX7) (cc := cX7_accept) (maxL := 2) rfl (by decide +kernel) rfl (Nat.le_of_ble_eq_true rfl) (fun p e s m args below meth c A Q hA hQ cx hr => ?_)
  have hinX7 : ∀ w ∈ wsX70, w ∈ wsX7_accept := by decide +kernel
  have f12 : Cond.fieldLink RX7 12 "FourPhases" "now" "LFourPhases$Line;" ∈ wsX7_accept := by decide +kernel
  have f16 : Cond.fieldLink RX7 16 "FourPhases" "trial" "LFourPhases$Line;" ∈ wsX7_accept := by decide +kernel
  have f29 : Cond.fieldLink RX7 29 "FourPhases" "history" "LFourPhases$History;" ∈ wsX7_accept := by decide +kernel
  refine j_iload_n cx (pc := 0) dX7_accept_0 1 rfl ?_
  refine j_if_ge cx (pc := 1) (tgt := 6) dX7_accept_1 (by decide) (fun c1_1 => ?_) (fun c1_1 => ?_)
  · skip
    refine j_aload_n cx (pc := 6) dX7_accept_6 0 rfl ?_
    refine j_get cx (pc := 7) 85 0 rfl rfl (C := RX7) (T := TX7) (N := 6) rfl hinX7 4 (by decide) f29 rfl (v := .ref (ad 8 0)) rfl dX7_accept_7 ?_
    refine j_aload_n cx (pc := 10) dX7_accept_10 0 rfl ?_
    refine j_get cx (pc := 11) 85 0 rfl rfl (C := RX7) (T := TX7) (N := 6) rfl hinX7 0 (by decide) f12 rfl (v := .ref (ad 0 0)) rfl dX7_accept_11 ?_
    obtain ⟨V1, hV1⟩ : ∃ z, z = (C1_record F ) := ⟨_, rfl⟩
    refine j_callv cx (pc := 14) 1 (c_X1_record l D Y ad F  hh hb) gX7_accept_X1_record rfl (by decide +kernel) rfl ⟨Nat.le_of_ble_eq_true rfl, Nat.le_of_ble_eq_true rfl⟩ (List.range 61) (FB_selH Y ad _) nd_range61 (Bs' := FB Y ad V1) (by rw [hV1]; exact FB_putH Y ad _ _ (kC1_record hh)) A1_HB 0 0 rfl rfl rfl rfl (Nat.le_of_ble_eq_true rfl) dX7_accept_14 ⟨Nat.zero_le _, Nat.zero_le _⟩ ?_
    refine j_aload_n cx (pc := 17) dX7_accept_17 0 rfl ?_
    refine j_get cx (pc := 18) 85 0 rfl rfl (C := RX7) (T := TX7) (N := 6) rfl hinX7 0 (by decide) f12 rfl (v := .ref (ad 0 0)) rfl dX7_accept_18 ?_
    refine j_aload_n cx (pc := 21) dX7_accept_21 0 rfl ?_
    refine j_get cx (pc := 22) 85 0 rfl rfl (C := RX7) (T := TX7) (N := 6) rfl hinX7 1 (by decide) f16 rfl (v := .ref (ad 1 0)) rfl dX7_accept_22 ?_
    obtain ⟨V2, hV2⟩ : ∃ z, z = setF V1 0 (C2_copyFrom (V1 0) (V1 1)) := ⟨_, rfl⟩
    refine j_callv cx (pc := 25) 1 (c_X2_copyFrom l D Y (ad 0) (V1 0) (ad 1) (V1 1)  (by rw [hV1, (kC1_record hh).1]; exact hb1)) gX7_accept_X2_copyFrom rfl (by decide +kernel) rfl ⟨Nat.le_of_ble_eq_true rfl, Nat.le_of_ble_eq_true rfl⟩ (List.range' 1 12 ++ List.range' 61 12) (FB_s01 Y ad V1) (by decide +kernel) (Bs' := FB Y ad V2) (by rw [hV2]; exact FB_p01 Y ad V1 _) A2_ln 1 0 rfl rfl rfl rfl (Nat.le_of_ble_eq_true rfl) dX7_accept_25 ⟨Nat.zero_le _, Nat.zero_le _⟩ ?_
    refine j_iload_n cx (pc := 28) dX7_accept_28 1 rfl ?_
    subst hQ; exact j_iret cx hr (by subst hV2; subst hV1; simp only [C7_accept, if_pos c1_1]) (by subst hV2; subst hV1; simp only [C7_accept, if_pos c1_1]) hA dX7_accept_29
  · skip
    refine j_iload_n cx (pc := 4) dX7_accept_4 1 rfl ?_
    subst hQ; exact j_iret cx hr (by simp only [C7_accept, if_neg c1_1]) (by simp only [C7_accept, if_neg c1_1]) hA dX7_accept_5
/-- the trial as it begins: a copy of the line that is now -/
def tr0 (F : Nat → Nat → Nat → Int32) : Nat → Nat → Int32 := C2_copyFrom (F 1) (F 0)
def C7_build (F : Nat → Nat → Nat → Int32) (stages : Int32) : Int32 × (Nat → Nat → Nat → Int32) :=
  if stages < (nI 1) then
    ((-2), F)
  else
    if stages ≤ (nI 6) then
      let V1 := setF F 1 (C2_copyFrom (F 1) (F 0))
      let V2 := setF V1 1 (C2_clearTo (V1 1) stages)
      let V3 := (C7_accept V2 ((C2_fullStages (V2 0) ) + (C2_waitingWords (V2 0) ))).2
      (((C7_accept V2 ((C2_fullStages (V2 0) ) + (C2_waitingWords (V2 0) ))).1), V3)
    else
      ((-2), F)
set_option maxHeartbeats 4000000 in
set_option maxRecDepth 100000 in
theorem c_X7_build (l : Launch) (D : va_G) (Y : Nat → ClassId) (ad : Nat → Nat → Nat) (F : Nat → Nat → Nat → Int32) (stages : Int32) (hh : hiOK F) (hb : boL (F 0)) (hst : vp_in (F 0 0 0) 7) (hb1 : boL (C2_clearTo (tr0 F) stages)) : CtI l yX7_build wsX7_build 5 125 D (tyL Y) (FB Y ad F) [.ref (ad 8 2), .int stages] (C7_build F stages).1 (FB Y ad (C7_build F stages).2) := by
  refine CtI.intro (own := RX7) (cc := cX7_build) (maxL := 2) rfl (by decide +kernel) rfl (Nat.le_of_ble_eq_true rfl) (fun p e s m args below meth c A Q hA hQ cx hr => ?_)
  have hinX7 : ∀ w ∈ wsX70, w ∈ wsX7_build := by decide +kernel
  have f12 : Cond.fieldLink RX7 12 "FourPhases" "now" "LFourPhases$Line;" ∈ wsX7_build := by decide +kernel
  have f16 : Cond.fieldLink RX7 16 "FourPhases" "trial" "LFourPhases$Line;" ∈ wsX7_build := by decide +kernel
  refine j_iload_n cx (pc := 0) dX7_build_0 1 rfl ?_
  refine j_iconst cx (pc := 1) (v := (nI 1)) dX7_build_1 (by decide) ?_
  refine j_icmp_lt cx (pc := 2) (tgt := 11) dX7_build_2 (by decide) (fun c2_1 => ?_) (fun c2_1 => ?_)
  · skip
    refine j_bipush cx (pc := 11) (v := (-2)) dX7_build_11 (by decide) ?_
    subst hQ; exact j_iret cx hr (by simp only [C7_build, if_pos c2_1]) (by simp only [C7_build, if_pos c2_1]) hA dX7_build_13
  · skip
    refine j_iload_n cx (pc := 5) dX7_build_5 1 rfl ?_
    refine j_bipush cx (pc := 6) (v := (nI 6)) dX7_build_6 (by decide) ?_
    refine j_icmp_le cx (pc := 8) (tgt := 14) dX7_build_8 (by decide) (fun c8_2 => ?_) (fun c8_2 => ?_)
    · skip
      refine j_aload_n cx (pc := 14) dX7_build_14 0 rfl ?_
      refine j_get cx (pc := 15) 85 0 rfl rfl (C := RX7) (T := TX7) (N := 6) rfl hinX7 1 (by decide) f16 rfl (v := .ref (ad 1 0)) rfl dX7_build_15 ?_
      refine j_aload_n cx (pc := 18) dX7_build_18 0 rfl ?_
      refine j_get cx (pc := 19) 85 0 rfl rfl (C := RX7) (T := TX7) (N := 6) rfl hinX7 0 (by decide) f12 rfl (v := .ref (ad 0 0)) rfl dX7_build_19 ?_
      obtain ⟨V1, hV1⟩ : ∃ z, z = setF F 1 (C2_copyFrom (F 1) (F 0)) := ⟨_, rfl⟩
      refine j_callv cx (pc := 22) 1 (c_X2_copyFrom l D Y (ad 1) (F 1) (ad 0) (F 0)  hb) gX7_build_X2_copyFrom rfl (by decide +kernel) rfl ⟨Nat.le_of_ble_eq_true rfl, Nat.le_of_ble_eq_true rfl⟩ (List.range' 61 12 ++ List.range' 1 12) (FB_s10 Y ad F) (by decide +kernel) (Bs' := FB Y ad V1) (by rw [hV1]; exact FB_p10 Y ad F _) A2_ln 61 0 rfl rfl rfl rfl (Nat.le_of_ble_eq_true rfl) dX7_build_22 ⟨Nat.zero_le _, Nat.zero_le _⟩ ?_
      refine j_aload_n cx (pc := 25) dX7_build_25 0 rfl ?_
      refine j_get cx (pc := 26) 85 0 rfl rfl (C := RX7) (T := TX7) (N := 6) rfl hinX7 1 (by decide) f16 rfl (v := .ref (ad 1 0)) rfl dX7_build_26 ?_
      refine j_iload_n cx (pc := 29) dX7_build_29 1 rfl ?_
      obtain ⟨V2, hV2⟩ : ∃ z, z = setF V1 1 (C2_clearTo (V1 1) stages) := ⟨_, rfl⟩
      refine j_callv cx (pc := 30) 1 (c_X2_clearTo l D Y (ad 1) (V1 1) stages ) gX7_build_X2_clearTo rfl (by decide +kernel) rfl ⟨Nat.le_of_ble_eq_true rfl, Nat.le_of_ble_eq_true rfl⟩ (List.range' 61 12) (FB_1_s Y ad V1) (by decide +kernel) (Bs' := FB Y ad V2) (by rw [hV2]; exact FB_1_p Y ad V1 _) A1_ln 61 0 rfl rfl rfl rfl (Nat.le_of_ble_eq_true rfl) dX7_build_30 ⟨Nat.zero_le _, Nat.zero_le _⟩ ?_
      refine j_aload_n cx (pc := 33) dX7_build_33 0 rfl ?_
      refine j_aload_n cx (pc := 34) dX7_build_34 0 rfl ?_
      refine j_get cx (pc := 35) 85 0 rfl rfl (C := RX7) (T := TX7) (N := 6) rfl hinX7 0 (by decide) f12 rfl (v := .ref (ad 0 0)) rfl dX7_build_35 ?_
      refine j_calli cx (pc := 38) 0 (c_X2_fullStages l D Y (ad 0) (V2 0)  (by subst hV2; subst hV1; (try simp only [setF_eq, nf_01, nf_02, nf_07, nf_08, nf_10, nf_12, nf_17, nf_18, nf_20, nf_21, nf_27, nf_28, nf_70, nf_71, nf_72, nf_78, nf_80, nf_81, nf_82, nf_87]); exact hst)) gX7_build_X2_fullStages rfl (by decide +kernel) rfl ⟨Nat.le_of_ble_eq_true rfl, Nat.le_of_ble_eq_true rfl⟩ (List.range' 1 12) (FB_0_s Y ad V2) (by decide +kernel) (Bs' := FB Y ad V2) (putL_same (FB_0_s Y ad V2)) rfl 1 0 rfl rfl rfl rfl (Nat.le_of_ble_eq_true rfl) dX7_build_38 ⟨Nat.zero_le _, Nat.zero_le _⟩ ?_
      refine j_aload_n cx (pc := 41) dX7_build_41 0 rfl ?_
      refine j_get cx (pc := 42) 85 0 rfl rfl (C := RX7) (T := TX7) (N := 6) rfl hinX7 0 (by decide) f12 rfl (v := .ref (ad 0 0)) rfl dX7_build_42 ?_
      refine j_calli cx (pc := 45) 0 (c_X2_waitingWords l D Y (ad 0) (V2 0)  ) gX7_build_X2_waitingWords rfl (by decide +kernel) rfl ⟨Nat.le_of_ble_eq_true rfl, Nat.le_of_ble_eq_true rfl⟩ (List.range' 1 12) (FB_0_s Y ad V2) (by decide +kernel) (Bs' := FB Y ad V2) (putL_same (FB_0_s Y ad V2)) rfl 1 0 rfl rfl rfl rfl (Nat.le_of_ble_eq_true rfl) dX7_build_45 ⟨Nat.zero_le _, Nat.zero_le _⟩ ?_
      refine j_iadd cx (pc := 48) dX7_build_48 ?_
      obtain ⟨V3, hV3⟩ : ∃ z, z = (C7_accept V2 ((C2_fullStages (V2 0) ) + (C2_waitingWords (V2 0) ))).2 := ⟨_, rfl⟩
      refine j_calli cx (pc := 49) 1 (c_X7_accept l D Y ad V2 ((C2_fullStages (V2 0) ) + (C2_waitingWords (V2 0) )) (by subst hV2; subst hV1; (try simp only [setF_eq, nf_01, nf_02, nf_07, nf_08, nf_10, nf_12, nf_17, nf_18, nf_20, nf_21, nf_27, nf_28, nf_70, nf_71, nf_72, nf_78, nf_80, nf_81, nf_82, nf_87]); exact hh) (by subst hV2; subst hV1; (try simp only [setF_eq, nf_01, nf_02, nf_07, nf_08, nf_10, nf_12, nf_17, nf_18, nf_20, nf_21, nf_27, nf_28, nf_70, nf_71, nf_72, nf_78, nf_80, nf_81, nf_82, nf_87]); exact hb) (by subst hV2; subst hV1; (try simp only [setF_eq, nf_01, nf_02, nf_07, nf_08, nf_10, nf_12, nf_17, nf_18, nf_20, nf_21, nf_27, nf_28, nf_70, nf_71, nf_72, nf_78, nf_80, nf_81, nf_82, nf_87]); exact hb1)) gX7_build_X7_accept rfl (by decide +kernel) rfl ⟨Nat.le_of_ble_eq_true rfl, Nat.le_of_ble_eq_true rfl⟩ (List.range 87) (sel_all (FB_len Y ad _)) nd_range87 (Bs' := FB Y ad V3) (by rw [hV3]; exact put_all (FB_len Y ad _) (FB_len Y ad _)) A1_FB 85 0 rfl rfl rfl rfl (Nat.le_of_ble_eq_true rfl) dX7_build_49 ⟨Nat.zero_le _, Nat.zero_le _⟩ ?_
      subst hQ; exact j_iret cx hr (by subst hV3; subst hV2; subst hV1; simp only [C7_build, if_neg c2_1, if_pos c8_2]) (by subst hV3; subst hV2; subst hV1; simp only [C7_build, if_neg c2_1, if_pos c8_2]) hA dX7_build_52
    · skip
      refine j_bipush cx (pc := 11) (v := (-2)) dX7_build_11 (by decide) ?_
      subst hQ; exact j_iret cx hr (by simp only [C7_build, if_neg c2_1, if_neg c8_2]) (by simp only [C7_build, if_neg c2_1, if_neg c8_2]) hA dX7_build_13
def C7_add (F : Nat → Nat → Nat → Int32) (sender : Int32) (word : Int32) : Int32 × (Nat → Nat → Nat → Int32) :=
  let V1 := setF F 1 (C2_copyFrom (F 1) (F 0))
  let V2 := setF V1 1 (C2_addWord (V1 1) sender word).2
  let V3 := (C7_accept V2 ((C2_addWord (V1 1) sender word).1)).2
  (((C7_accept V2 ((C2_addWord (V1 1) sender word).1)).1), V3)
set_option maxHeartbeats 4000000 in
set_option maxRecDepth 100000 in
theorem c_X7_add (l : Launch) (D : va_G) (Y : Nat → ClassId) (ad : Nat → Nat → Nat) (F : Nat → Nat → Nat → Int32) (sender : Int32) (word : Int32) (hh : hiOK F) (hb : boL (F 0)) (hw : WF (tr0 F)) (hb1 : boL (C2_addWord (tr0 F) sender word).2) : CtI l yX7_add wsX7_add 5 125 D (tyL Y) (FB Y ad F) [.ref (ad 8 2), .int sender, .int word] (C7_add F sender word).1 (FB Y ad (C7_add F sender word).2) := by
  refine CtI.intro (own := RX7) (cc := cX7_add) (maxL := 3) rfl (by decide +kernel) rfl (Nat.le_of_ble_eq_true rfl) (fun p e s m args below meth c A Q hA hQ cx hr => ?_)
  have hinX7 : ∀ w ∈ wsX70, w ∈ wsX7_add := by decide +kernel
  have f12 : Cond.fieldLink RX7 12 "FourPhases" "now" "LFourPhases$Line;" ∈ wsX7_add := by decide +kernel
  have f16 : Cond.fieldLink RX7 16 "FourPhases" "trial" "LFourPhases$Line;" ∈ wsX7_add := by decide +kernel
  refine j_aload_n cx (pc := 0) dX7_add_0 0 rfl ?_
  refine j_get cx (pc := 1) 85 0 rfl rfl (C := RX7) (T := TX7) (N := 6) rfl hinX7 1 (by decide) f16 rfl (v := .ref (ad 1 0)) rfl dX7_add_1 ?_
  refine j_aload_n cx (pc := 4) dX7_add_4 0 rfl ?_
  refine j_get cx (pc := 5) 85 0 rfl rfl (C := RX7) (T := TX7) (N := 6) rfl hinX7 0 (by decide) f12 rfl (v := .ref (ad 0 0)) rfl dX7_add_5 ?_
  obtain ⟨V1, hV1⟩ : ∃ z, z = setF F 1 (C2_copyFrom (F 1) (F 0)) := ⟨_, rfl⟩
  refine j_callv cx (pc := 8) 1 (c_X2_copyFrom l D Y (ad 1) (F 1) (ad 0) (F 0)  hb) gX7_add_X2_copyFrom rfl (by decide +kernel) rfl ⟨Nat.le_of_ble_eq_true rfl, Nat.le_of_ble_eq_true rfl⟩ (List.range' 61 12 ++ List.range' 1 12) (FB_s10 Y ad F) (by decide +kernel) (Bs' := FB Y ad V1) (by rw [hV1]; exact FB_p10 Y ad F _) A2_ln 61 0 rfl rfl rfl rfl (Nat.le_of_ble_eq_true rfl) dX7_add_8 ⟨Nat.zero_le _, Nat.zero_le _⟩ ?_
  refine j_aload_n cx (pc := 11) dX7_add_11 0 rfl ?_
  refine j_aload_n cx (pc := 12) dX7_add_12 0 rfl ?_
  refine j_get cx (pc := 13) 85 0 rfl rfl (C := RX7) (T := TX7) (N := 6) rfl hinX7 1 (by decide) f16 rfl (v := .ref (ad 1 0)) rfl dX7_add_13 ?_
  refine j_iload_n cx (pc := 16) dX7_add_16 1 rfl ?_
  refine j_iload_n cx (pc := 17) dX7_add_17 2 rfl ?_
  obtain ⟨V2, hV2⟩ : ∃ z, z = setF V1 1 (C2_addWord (V1 1) sender word).2 := ⟨_, rfl⟩
  refine j_calli cx (pc := 18) 2 (c_X2_addWord l D Y (ad 1) (V1 1) sender word (by subst hV1; (try simp only [setF_eq, nf_01, nf_02, nf_07, nf_08, nf_10, nf_12, nf_17, nf_18, nf_20, nf_21, nf_27, nf_28, nf_70, nf_71, nf_72, nf_78, nf_80, nf_81, nf_82, nf_87]); exact hw.2.2.2.1) (by subst hV1; (try simp only [setF_eq, nf_01, nf_02, nf_07, nf_08, nf_10, nf_12, nf_17, nf_18, nf_20, nf_21, nf_27, nf_28, nf_70, nf_71, nf_72, nf_78, nf_80, nf_81, nf_82, nf_87]); exact hw.2.2.2.2.1) (by subst hV1; (try simp only [setF_eq, nf_01, nf_02, nf_07, nf_08, nf_10, nf_12, nf_17, nf_18, nf_20, nf_21, nf_27, nf_28, nf_70, nf_71, nf_72, nf_78, nf_80, nf_81, nf_82, nf_87]); exact hw.2.2.2.2.2) (by subst hV1; (try simp only [setF_eq, nf_01, nf_02, nf_07, nf_08, nf_10, nf_12, nf_17, nf_18, nf_20, nf_21, nf_27, nf_28, nf_70, nf_71, nf_72, nf_78, nf_80, nf_81, nf_82, nf_87]); exact hw.1)) gX7_add_X2_addWord rfl (by decide +kernel) rfl ⟨Nat.le_of_ble_eq_true rfl, Nat.le_of_ble_eq_true rfl⟩ (List.range' 61 12) (FB_1_s Y ad V1) (by decide +kernel) (Bs' := FB Y ad V2) (by rw [hV2]; exact FB_1_p Y ad V1 _) A1_ln 61 0 rfl rfl rfl rfl (Nat.le_of_ble_eq_true rfl) dX7_add_18 ⟨Nat.zero_le _, Nat.zero_le _⟩ ?_
  obtain ⟨V3, hV3⟩ : ∃ z, z = (C7_accept V2 ((C2_addWord (V1 1) sender word).1)).2 := ⟨_, rfl⟩
  refine j_calli cx (pc := 21) 1 (c_X7_accept l D Y ad V2 ((C2_addWord (V1 1) sender word).1) (by subst hV2; subst hV1; (try simp only [setF_eq, nf_01, nf_02, nf_07, nf_08, nf_10, nf_12, nf_17, nf_18, nf_20, nf_21, nf_27, nf_28, nf_70, nf_71, nf_72, nf_78, nf_80, nf_81, nf_82, nf_87]); exact hh) (by subst hV2; subst hV1; (try simp only [setF_eq, nf_01, nf_02, nf_07, nf_08, nf_10, nf_12, nf_17, nf_18, nf_20, nf_21, nf_27, nf_28, nf_70, nf_71, nf_72, nf_78, nf_80, nf_81, nf_82, nf_87]); exact hb) (by subst hV2; subst hV1; (try simp only [setF_eq, nf_01, nf_02, nf_07, nf_08, nf_10, nf_12, nf_17, nf_18, nf_20, nf_21, nf_27, nf_28, nf_70, nf_71, nf_72, nf_78, nf_80, nf_81, nf_82, nf_87]); exact hb1)) gX7_add_X7_accept rfl (by decide +kernel) rfl ⟨Nat.le_of_ble_eq_true rfl, Nat.le_of_ble_eq_true rfl⟩ (List.range 87) (sel_all (FB_len Y ad _)) nd_range87 (Bs' := FB Y ad V3) (by rw [hV3]; exact put_all (FB_len Y ad _) (FB_len Y ad _)) A1_FB 85 0 rfl rfl rfl rfl (Nat.le_of_ble_eq_true rfl) dX7_add_21 ⟨Nat.zero_le _, Nat.zero_le _⟩ ?_
  subst hQ; exact j_iret cx hr (by subst hV3; subst hV2; subst hV1; simp only [C7_add]) (by subst hV3; subst hV2; subst hV1; simp only [C7_add]) hA dX7_add_24
def C7_run (F : Nat → Nat → Nat → Int32) (ticks : Int32) : Int32 × (Nat → Nat → Nat → Int32) :=
  let V1 := setF F 1 (C2_copyFrom (F 1) (F 0))
  let V2 := setF V1 1 (C2_passTicks (V1 1) ticks).2
  let V3 := (C7_accept V2 ((C2_passTicks (V1 1) ticks).1)).2
  (((C7_accept V2 ((C2_passTicks (V1 1) ticks).1)).1), V3)
set_option maxHeartbeats 4000000 in
set_option maxRecDepth 100000 in
theorem c_X7_run (l : Launch) (D : va_G) (Y : Nat → ClassId) (ad : Nat → Nat → Nat) (F : Nat → Nat → Nat → Int32) (ticks : Int32) (hh : hiOK F) (hb : boL (F 0)) (hok : ¬ ticks < nI 1 → ticks ≤ nI 1000 → tr0 F 0 1 + ticks ≤ nI 1000000 → lauOK (tr0 F 0 1 + ticks) 1000000 (tr0 F)) (hb1 : boL (C2_passTicks (tr0 F) ticks).2) : CtI l yX7_run wsX7_run 6 144 D (tyL Y) (FB Y ad F) [.ref (ad 8 2), .int ticks] (C7_run F ticks).1 (FB Y ad (C7_run F ticks).2) := by
  refine CtI.intro (own := RX7) (cc := cX7_run) (maxL := 2) rfl (by decide +kernel) rfl (Nat.le_of_ble_eq_true rfl) (fun p e s m args below meth c A Q hA hQ cx hr => ?_)
  have hinX7 : ∀ w ∈ wsX70, w ∈ wsX7_run := by decide +kernel
  have f12 : Cond.fieldLink RX7 12 "FourPhases" "now" "LFourPhases$Line;" ∈ wsX7_run := by decide +kernel
  have f16 : Cond.fieldLink RX7 16 "FourPhases" "trial" "LFourPhases$Line;" ∈ wsX7_run := by decide +kernel
  refine j_aload_n cx (pc := 0) dX7_run_0 0 rfl ?_
  refine j_get cx (pc := 1) 85 0 rfl rfl (C := RX7) (T := TX7) (N := 6) rfl hinX7 1 (by decide) f16 rfl (v := .ref (ad 1 0)) rfl dX7_run_1 ?_
  refine j_aload_n cx (pc := 4) dX7_run_4 0 rfl ?_
  refine j_get cx (pc := 5) 85 0 rfl rfl (C := RX7) (T := TX7) (N := 6) rfl hinX7 0 (by decide) f12 rfl (v := .ref (ad 0 0)) rfl dX7_run_5 ?_
  obtain ⟨V1, hV1⟩ : ∃ z, z = setF F 1 (C2_copyFrom (F 1) (F 0)) := ⟨_, rfl⟩
  refine j_callv cx (pc := 8) 1 (c_X2_copyFrom l D Y (ad 1) (F 1) (ad 0) (F 0)  hb) gX7_run_X2_copyFrom rfl (by decide +kernel) rfl ⟨Nat.le_of_ble_eq_true rfl, Nat.le_of_ble_eq_true rfl⟩ (List.range' 61 12 ++ List.range' 1 12) (FB_s10 Y ad F) (by decide +kernel) (Bs' := FB Y ad V1) (by rw [hV1]; exact FB_p10 Y ad F _) A2_ln 61 0 rfl rfl rfl rfl (Nat.le_of_ble_eq_true rfl) dX7_run_8 ⟨Nat.zero_le _, Nat.zero_le _⟩ ?_
  refine j_aload_n cx (pc := 11) dX7_run_11 0 rfl ?_
  refine j_aload_n cx (pc := 12) dX7_run_12 0 rfl ?_
  refine j_get cx (pc := 13) 85 0 rfl rfl (C := RX7) (T := TX7) (N := 6) rfl hinX7 1 (by decide) f16 rfl (v := .ref (ad 1 0)) rfl dX7_run_13 ?_
  refine j_iload_n cx (pc := 16) dX7_run_16 1 rfl ?_
  obtain ⟨V2, hV2⟩ : ∃ z, z = setF V1 1 (C2_passTicks (V1 1) ticks).2 := ⟨_, rfl⟩
  refine j_calli cx (pc := 17) 1 (c_X2_passTicks l D Y (ad 1) (V1 1) ticks (by subst hV1; (try simp only [setF_eq, nf_01, nf_02, nf_07, nf_08, nf_10, nf_12, nf_17, nf_18, nf_20, nf_21, nf_27, nf_28, nf_70, nf_71, nf_72, nf_78, nf_80, nf_81, nf_82, nf_87]); exact hok)) gX7_run_X2_passTicks rfl (by decide +kernel) rfl ⟨Nat.le_of_ble_eq_true rfl, Nat.le_of_ble_eq_true rfl⟩ (List.range' 61 12) (FB_1_s Y ad V1) (by decide +kernel) (Bs' := FB Y ad V2) (by rw [hV2]; exact FB_1_p Y ad V1 _) A1_ln 61 0 rfl rfl rfl rfl (Nat.le_of_ble_eq_true rfl) dX7_run_17 ⟨Nat.zero_le _, Nat.zero_le _⟩ ?_
  obtain ⟨V3, hV3⟩ : ∃ z, z = (C7_accept V2 ((C2_passTicks (V1 1) ticks).1)).2 := ⟨_, rfl⟩
  refine j_calli cx (pc := 20) 1 (c_X7_accept l D Y ad V2 ((C2_passTicks (V1 1) ticks).1) (by subst hV2; subst hV1; (try simp only [setF_eq, nf_01, nf_02, nf_07, nf_08, nf_10, nf_12, nf_17, nf_18, nf_20, nf_21, nf_27, nf_28, nf_70, nf_71, nf_72, nf_78, nf_80, nf_81, nf_82, nf_87]); exact hh) (by subst hV2; subst hV1; (try simp only [setF_eq, nf_01, nf_02, nf_07, nf_08, nf_10, nf_12, nf_17, nf_18, nf_20, nf_21, nf_27, nf_28, nf_70, nf_71, nf_72, nf_78, nf_80, nf_81, nf_82, nf_87]); exact hb) (by subst hV2; subst hV1; (try simp only [setF_eq, nf_01, nf_02, nf_07, nf_08, nf_10, nf_12, nf_17, nf_18, nf_20, nf_21, nf_27, nf_28, nf_70, nf_71, nf_72, nf_78, nf_80, nf_81, nf_82, nf_87]); exact hb1)) gX7_run_X7_accept rfl (by decide +kernel) rfl ⟨Nat.le_of_ble_eq_true rfl, Nat.le_of_ble_eq_true rfl⟩ (List.range 87) (sel_all (FB_len Y ad _)) nd_range87 (Bs' := FB Y ad V3) (by rw [hV3]; exact put_all (FB_len Y ad _) (FB_len Y ad _)) A1_FB 85 0 rfl rfl rfl rfl (Nat.le_of_ble_eq_true rfl) dX7_run_20 ⟨Nat.zero_le _, Nat.zero_le _⟩ ?_
  subst hQ; exact j_iret cx hr (by subst hV3; subst hV2; subst hV1; simp only [C7_run]) (by subst hV3; subst hV2; subst hV1; simp only [C7_run]) hA dX7_run_23
def C7_finish (F : Nat → Nat → Nat → Int32)  : Int32 × (Nat → Nat → Nat → Int32) :=
  if (C2_isQuiet (F 0) ) = 0 then
    let V1 := setF F 1 (C2_copyFrom (F 1) (F 0))
    let V2 := setF V1 1 (C2_letArriveUpTo (V1 1) (nI 2000000000))
    if (V2 1 0 1) ≤ (nI 1000000) then
      let V3 := (C7_accept V2 ((V2 1 0 1) - (V2 0 0 1))).2
      (((C7_accept V2 ((V2 1 0 1) - (V2 0 0 1))).1), V3)
    else
      ((-3), V2)
  else
    ((-5), F)
set_option maxHeartbeats 4000000 in
set_option maxRecDepth 100000 in
theorem c_X7_finish (l : Launch) (D : va_G) (Y : Nat → ClassId) (ad : Nat → Nat → Nat) (F : Nat → Nat → Nat → Int32)  (hh : hiOK F) (hb : boL (F 0)) (hok : lauOK (nI 2000000000) 1000000 (tr0 F)) (hb1 : boL (C2_letArriveUpTo (tr0 F) (nI 2000000000))) : CtI l yX7_finish wsX7_finish 5 125 D (tyL Y) (FB Y ad F) [.ref (ad 8 2)] (C7_finish F ).1 (FB Y ad (C7_finish F ).2) := by
  refine CtI.intro (own := RX7) (cc := cX7_finish) (maxL := 1) rfl (by decide +kernel) rfl (Nat.le_of_ble_eq_true rfl) (fun p e s m args below meth c A Q hA hQ cx hr => ?_)
  have hinX2 : ∀ w ∈ wsX20, w ∈ wsX7_finish := by decide +kernel
  have hinX7 : ∀ w ∈ wsX70, w ∈ wsX7_finish := by decide +kernel
  have f12 : Cond.fieldLink RX7 12 "FourPhases" "now" "LFourPhases$Line;" ∈ wsX7_finish := by decide +kernel
  have f16 : Cond.fieldLink RX7 16 "FourPhases" "trial" "LFourPhases$Line;" ∈ wsX7_finish := by decide +kernel
  have f74 : Cond.fieldLink RX7 74 "FourPhases$Line" "time" "I" ∈ wsX7_finish := by decide +kernel
  refine j_aload_n cx (pc := 0) dX7_finish_0 0 rfl ?_
  refine j_get cx (pc := 1) 85 0 rfl rfl (C := RX7) (T := TX7) (N := 6) rfl hinX7 0 (by decide) f12 rfl (v := .ref (ad 0 0)) rfl dX7_finish_1 ?_
  refine j_calli cx (pc := 4) 0 (c_X2_isQuiet l D Y (ad 0) (F 0)  ) gX7_finish_X2_isQuiet rfl (by decide +kernel) rfl ⟨Nat.le_of_ble_eq_true rfl, Nat.le_of_ble_eq_true rfl⟩ (List.range' 1 12) (FB_0_s Y ad F) (by decide +kernel) (Bs' := FB Y ad F) (putL_same (FB_0_s Y ad F)) rfl 1 0 rfl rfl rfl rfl (Nat.le_of_ble_eq_true rfl) dX7_finish_4 ⟨Nat.zero_le _, Nat.zero_le _⟩ ?_
  refine j_if_eq cx (pc := 7) (tgt := 13) dX7_finish_7 (by decide) (fun c7_1 => ?_) (fun c7_1 => ?_)
  · skip
    refine j_aload_n cx (pc := 13) dX7_finish_13 0 rfl ?_
    refine j_get cx (pc := 14) 85 0 rfl rfl (C := RX7) (T := TX7) (N := 6) rfl hinX7 1 (by decide) f16 rfl (v := .ref (ad 1 0)) rfl dX7_finish_14 ?_
    refine j_aload_n cx (pc := 17) dX7_finish_17 0 rfl ?_
    refine j_get cx (pc := 18) 85 0 rfl rfl (C := RX7) (T := TX7) (N := 6) rfl hinX7 0 (by decide) f12 rfl (v := .ref (ad 0 0)) rfl dX7_finish_18 ?_
    obtain ⟨V1, hV1⟩ : ∃ z, z = setF F 1 (C2_copyFrom (F 1) (F 0)) := ⟨_, rfl⟩
    refine j_callv cx (pc := 21) 1 (c_X2_copyFrom l D Y (ad 1) (F 1) (ad 0) (F 0)  hb) gX7_finish_X2_copyFrom rfl (by decide +kernel) rfl ⟨Nat.le_of_ble_eq_true rfl, Nat.le_of_ble_eq_true rfl⟩ (List.range' 61 12 ++ List.range' 1 12) (FB_s10 Y ad F) (by decide +kernel) (Bs' := FB Y ad V1) (by rw [hV1]; exact FB_p10 Y ad F _) A2_ln 61 0 rfl rfl rfl rfl (Nat.le_of_ble_eq_true rfl) dX7_finish_21 ⟨Nat.zero_le _, Nat.zero_le _⟩ ?_
    refine j_aload_n cx (pc := 24) dX7_finish_24 0 rfl ?_
    refine j_get cx (pc := 25) 85 0 rfl rfl (C := RX7) (T := TX7) (N := 6) rfl hinX7 1 (by decide) f16 rfl (v := .ref (ad 1 0)) rfl dX7_finish_25 ?_
    refine j_ldc cx (pc := 28) (v := (nI 2000000000)) (show Cond.constant RX7 70 (2000000000) ∈ wsX7_finish from by decide +kernel) dX7_finish_28 ?_
    obtain ⟨V2, hV2⟩ : ∃ z, z = setF V1 1 (C2_letArriveUpTo (V1 1) (nI 2000000000)) := ⟨_, rfl⟩
    refine j_callv cx (pc := 30) 1 (c_X2_letArriveUpTo l D Y (ad 1) (V1 1) (nI 2000000000) (by subst hV1; (try simp only [setF_eq, nf_01, nf_02, nf_07, nf_08, nf_10, nf_12, nf_17, nf_18, nf_20, nf_21, nf_27, nf_28, nf_70, nf_71, nf_72, nf_78, nf_80, nf_81, nf_82, nf_87]); exact hok)) gX7_finish_X2_letArriveUpTo rfl (by decide +kernel) rfl ⟨Nat.le_of_ble_eq_true rfl, Nat.le_of_ble_eq_true rfl⟩ (List.range' 61 12) (FB_1_s Y ad V1) (by decide +kernel) (Bs' := FB Y ad V2) (by rw [hV2]; exact FB_1_p Y ad V1 _) A1_ln 61 0 rfl rfl rfl rfl (Nat.le_of_ble_eq_true rfl) dX7_finish_30 ⟨Nat.zero_le _, Nat.zero_le _⟩ ?_
    refine j_aload_n cx (pc := 33) dX7_finish_33 0 rfl ?_
    refine j_get cx (pc := 34) 85 0 rfl rfl (C := RX7) (T := TX7) (N := 6) rfl hinX7 1 (by decide) f16 rfl (v := .ref (ad 1 0)) rfl dX7_finish_34 ?_
    refine j_get cx (pc := 37) 61 0 rfl rfl (C := RX2) (T := TX2) (N := 12) rfl hinX2 1 (by decide) f74 rfl (v := .int (V2 1 0 1)) rfl dX7_finish_37 ?_
    refine j_ldc cx (pc := 40) (v := (nI 1000000)) (show Cond.constant RX7 78 (1000000) ∈ wsX7_finish from by decide +kernel) dX7_finish_40 ?_
    refine j_icmp_le cx (pc := 42) (tgt := 48) dX7_finish_42 (by decide) (fun c42_2 => ?_) (fun c42_2 => ?_)
    · skip
      refine j_aload_n cx (pc := 48) dX7_finish_48 0 rfl ?_
      refine j_aload_n cx (pc := 49) dX7_finish_49 0 rfl ?_
      refine j_get cx (pc := 50) 85 0 rfl rfl (C := RX7) (T := TX7) (N := 6) rfl hinX7 1 (by decide) f16 rfl (v := .ref (ad 1 0)) rfl dX7_finish_50 ?_
      refine j_get cx (pc := 53) 61 0 rfl rfl (C := RX2) (T := TX2) (N := 12) rfl hinX2 1 (by decide) f74 rfl (v := .int (V2 1 0 1)) rfl dX7_finish_53 ?_
      refine j_aload_n cx (pc := 56) dX7_finish_56 0 rfl ?_
      refine j_get cx (pc := 57) 85 0 rfl rfl (C := RX7) (T := TX7) (N := 6) rfl hinX7 0 (by decide) f12 rfl (v := .ref (ad 0 0)) rfl dX7_finish_57 ?_
      refine j_get cx (pc := 60) 1 0 rfl rfl (C := RX2) (T := TX2) (N := 12) rfl hinX2 1 (by decide) f74 rfl (v := .int (V2 0 0 1)) rfl dX7_finish_60 ?_
      refine j_isub cx (pc := 63) dX7_finish_63 ?_
      obtain ⟨V3, hV3⟩ : ∃ z, z = (C7_accept V2 ((V2 1 0 1) - (V2 0 0 1))).2 := ⟨_, rfl⟩
      refine j_calli cx (pc := 64) 1 (c_X7_accept l D Y ad V2 ((V2 1 0 1) - (V2 0 0 1)) (by subst hV2; subst hV1; (try simp only [setF_eq, nf_01, nf_02, nf_07, nf_08, nf_10, nf_12, nf_17, nf_18, nf_20, nf_21, nf_27, nf_28, nf_70, nf_71, nf_72, nf_78, nf_80, nf_81, nf_82, nf_87]); exact hh) (by subst hV2; subst hV1; (try simp only [setF_eq, nf_01, nf_02, nf_07, nf_08, nf_10, nf_12, nf_17, nf_18, nf_20, nf_21, nf_27, nf_28, nf_70, nf_71, nf_72, nf_78, nf_80, nf_81, nf_82, nf_87]); exact hb) (by subst hV2; subst hV1; (try simp only [setF_eq, nf_01, nf_02, nf_07, nf_08, nf_10, nf_12, nf_17, nf_18, nf_20, nf_21, nf_27, nf_28, nf_70, nf_71, nf_72, nf_78, nf_80, nf_81, nf_82, nf_87]); exact hb1)) gX7_finish_X7_accept rfl (by decide +kernel) rfl ⟨Nat.le_of_ble_eq_true rfl, Nat.le_of_ble_eq_true rfl⟩ (List.range 87) (sel_all (FB_len Y ad _)) nd_range87 (Bs' := FB Y ad V3) (by rw [hV3]; exact put_all (FB_len Y ad _) (FB_len Y ad _)) A1_FB 85 0 rfl rfl rfl rfl (Nat.le_of_ble_eq_true rfl) dX7_finish_64 ⟨Nat.zero_le _, Nat.zero_le _⟩ ?_
      subst hQ; exact j_iret cx hr (by subst hV3; subst hV2; subst hV1; simp only [C7_finish, if_pos c7_1, if_pos c42_2]) (by subst hV3; subst hV2; subst hV1; simp only [C7_finish, if_pos c7_1, if_pos c42_2]) hA dX7_finish_67
    · skip
      refine j_bipush cx (pc := 45) (v := (-3)) dX7_finish_45 (by decide) ?_
      subst hQ; exact j_iret cx hr (by subst hV2; subst hV1; simp only [C7_finish, if_pos c7_1, if_neg c42_2]) (by subst hV2; subst hV1; simp only [C7_finish, if_pos c7_1, if_neg c42_2]) hA dX7_finish_47
  · skip
    refine j_bipush cx (pc := 10) (v := (-5)) dX7_finish_10 (by decide) ?_
    subst hQ; exact j_iret cx hr (by simp only [C7_finish, if_neg c7_1]) (by simp only [C7_finish, if_neg c7_1]) hA dX7_finish_12
def C7_setDelay (F : Nat → Nat → Nat → Int32) (link : Int32) (wire : Int32) (delay : Int32) : Int32 × (Nat → Nat → Nat → Int32) :=
  let V1 := setF F 1 (C2_copyFrom (F 1) (F 0))
  let V2 := setF V1 1 (C2_changeDelay (V1 1) link wire delay).2
  let V3 := (C7_accept V2 ((C2_changeDelay (V1 1) link wire delay).1)).2
  (((C7_accept V2 ((C2_changeDelay (V1 1) link wire delay).1)).1), V3)
set_option maxHeartbeats 4000000 in
set_option maxRecDepth 100000 in
theorem c_X7_setDelay (l : Launch) (D : va_G) (Y : Nat → ClassId) (ad : Nat → Nat → Nat) (F : Nat → Nat → Nat → Int32) (link : Int32) (wire : Int32) (delay : Int32) (hh : hiOK F) (hb : boL (F 0)) (hst : vp_in (tr0 F 0 0) 7) (hc : chOK (chU (tr0 F))) (hb1 : boL (C2_changeDelay (tr0 F) link wire delay).2) : CtI l yX7_setDelay wsX7_setDelay 5 125 D (tyL Y) (FB Y ad F) [.ref (ad 8 2), .int link, .int wire, .int delay] (C7_setDelay F link wire delay).1 (FB Y ad (C7_setDelay F link wire delay).2) := by
  refine CtI.intro (own := RX7) (cc := cX7_setDelay) (maxL := 4) rfl (by decide +kernel) rfl (Nat.le_of_ble_eq_true rfl) (fun p e s m args below meth c A Q hA hQ cx hr => ?_)
  have hinX7 : ∀ w ∈ wsX70, w ∈ wsX7_setDelay := by decide +kernel
  have f12 : Cond.fieldLink RX7 12 "FourPhases" "now" "LFourPhases$Line;" ∈ wsX7_setDelay := by decide +kernel
  have f16 : Cond.fieldLink RX7 16 "FourPhases" "trial" "LFourPhases$Line;" ∈ wsX7_setDelay := by decide +kernel
  refine j_aload_n cx (pc := 0) dX7_setDelay_0 0 rfl ?_
  refine j_get cx (pc := 1) 85 0 rfl rfl (C := RX7) (T := TX7) (N := 6) rfl hinX7 1 (by decide) f16 rfl (v := .ref (ad 1 0)) rfl dX7_setDelay_1 ?_
  refine j_aload_n cx (pc := 4) dX7_setDelay_4 0 rfl ?_
  refine j_get cx (pc := 5) 85 0 rfl rfl (C := RX7) (T := TX7) (N := 6) rfl hinX7 0 (by decide) f12 rfl (v := .ref (ad 0 0)) rfl dX7_setDelay_5 ?_
  obtain ⟨V1, hV1⟩ : ∃ z, z = setF F 1 (C2_copyFrom (F 1) (F 0)) := ⟨_, rfl⟩
  refine j_callv cx (pc := 8) 1 (c_X2_copyFrom l D Y (ad 1) (F 1) (ad 0) (F 0)  hb) gX7_setDelay_X2_copyFrom rfl (by decide +kernel) rfl ⟨Nat.le_of_ble_eq_true rfl, Nat.le_of_ble_eq_true rfl⟩ (List.range' 61 12 ++ List.range' 1 12) (FB_s10 Y ad F) (by decide +kernel) (Bs' := FB Y ad V1) (by rw [hV1]; exact FB_p10 Y ad F _) A2_ln 61 0 rfl rfl rfl rfl (Nat.le_of_ble_eq_true rfl) dX7_setDelay_8 ⟨Nat.zero_le _, Nat.zero_le _⟩ ?_
  refine j_aload_n cx (pc := 11) dX7_setDelay_11 0 rfl ?_
  refine j_aload_n cx (pc := 12) dX7_setDelay_12 0 rfl ?_
  refine j_get cx (pc := 13) 85 0 rfl rfl (C := RX7) (T := TX7) (N := 6) rfl hinX7 1 (by decide) f16 rfl (v := .ref (ad 1 0)) rfl dX7_setDelay_13 ?_
  refine j_iload_n cx (pc := 16) dX7_setDelay_16 1 rfl ?_
  refine j_iload_n cx (pc := 17) dX7_setDelay_17 2 rfl ?_
  refine j_iload_n cx (pc := 18) dX7_setDelay_18 3 rfl ?_
  obtain ⟨V2, hV2⟩ : ∃ z, z = setF V1 1 (C2_changeDelay (V1 1) link wire delay).2 := ⟨_, rfl⟩
  refine j_calli cx (pc := 19) 3 (c_X2_changeDelay l D Y (ad 1) (V1 1) link wire delay (by subst hV1; (try simp only [setF_eq, nf_01, nf_02, nf_07, nf_08, nf_10, nf_12, nf_17, nf_18, nf_20, nf_21, nf_27, nf_28, nf_70, nf_71, nf_72, nf_78, nf_80, nf_81, nf_82, nf_87]); exact hst) (by subst hV1; (try simp only [setF_eq, nf_01, nf_02, nf_07, nf_08, nf_10, nf_12, nf_17, nf_18, nf_20, nf_21, nf_27, nf_28, nf_70, nf_71, nf_72, nf_78, nf_80, nf_81, nf_82, nf_87]); exact hc)) gX7_setDelay_X2_changeDelay rfl (by decide +kernel) rfl ⟨Nat.le_of_ble_eq_true rfl, Nat.le_of_ble_eq_true rfl⟩ (List.range' 61 12) (FB_1_s Y ad V1) (by decide +kernel) (Bs' := FB Y ad V2) (by rw [hV2]; exact FB_1_p Y ad V1 _) A1_ln 61 0 rfl rfl rfl rfl (Nat.le_of_ble_eq_true rfl) dX7_setDelay_19 ⟨Nat.zero_le _, Nat.zero_le _⟩ ?_
  obtain ⟨V3, hV3⟩ : ∃ z, z = (C7_accept V2 ((C2_changeDelay (V1 1) link wire delay).1)).2 := ⟨_, rfl⟩
  refine j_calli cx (pc := 22) 1 (c_X7_accept l D Y ad V2 ((C2_changeDelay (V1 1) link wire delay).1) (by subst hV2; subst hV1; (try simp only [setF_eq, nf_01, nf_02, nf_07, nf_08, nf_10, nf_12, nf_17, nf_18, nf_20, nf_21, nf_27, nf_28, nf_70, nf_71, nf_72, nf_78, nf_80, nf_81, nf_82, nf_87]); exact hh) (by subst hV2; subst hV1; (try simp only [setF_eq, nf_01, nf_02, nf_07, nf_08, nf_10, nf_12, nf_17, nf_18, nf_20, nf_21, nf_27, nf_28, nf_70, nf_71, nf_72, nf_78, nf_80, nf_81, nf_82, nf_87]); exact hb) (by subst hV2; subst hV1; (try simp only [setF_eq, nf_01, nf_02, nf_07, nf_08, nf_10, nf_12, nf_17, nf_18, nf_20, nf_21, nf_27, nf_28, nf_70, nf_71, nf_72, nf_78, nf_80, nf_81, nf_82, nf_87]); exact hb1)) gX7_setDelay_X7_accept rfl (by decide +kernel) rfl ⟨Nat.le_of_ble_eq_true rfl, Nat.le_of_ble_eq_true rfl⟩ (List.range 87) (sel_all (FB_len Y ad _)) nd_range87 (Bs' := FB Y ad V3) (by rw [hV3]; exact put_all (FB_len Y ad _) (FB_len Y ad _)) A1_FB 85 0 rfl rfl rfl rfl (Nat.le_of_ble_eq_true rfl) dX7_setDelay_22 ⟨Nat.zero_le _, Nat.zero_le _⟩ ?_
  subst hQ; exact j_iret cx hr (by subst hV3; subst hV2; subst hV1; simp only [C7_setDelay]) (by subst hV3; subst hV2; subst hV1; simp only [C7_setDelay]) hA dX7_setDelay_25
def C7_set (F : Nat → Nat → Nat → Int32) (setting : Int32) (value : Int32) : Int32 × (Nat → Nat → Nat → Int32) :=
  if setting < 0 then
    ((-1), F)
  else
    if setting < (nI 3) then
      if setting = (nI 2) then
        if value < 0 then
          ((-2), F)
        else
          if value ≤ (nI 1) then
            let se := tN setting
            if (F 0 1 se) = value then
              ((-5), F)
            else
              let V4 := setF F 1 (C2_copyFrom (F 1) (F 0))
              let V5 := setF V4 1 (up1 (V4 1) 1 se value)
              let V6 := (C7_accept V5 (F 0 1 se)).2
              (((C7_accept V5 (F 0 1 se)).1), V6)
          else
            ((-2), F)
      else
        if value < 0 then
          ((-2), F)
        else
          if value ≤ (nI 20) then
            let se := tN setting
            if (F 0 1 se) = value then
              ((-5), F)
            else
              let V1 := setF F 1 (C2_copyFrom (F 1) (F 0))
              let V2 := setF V1 1 (up1 (V1 1) 1 se value)
              let V3 := (C7_accept V2 (F 0 1 se)).2
              (((C7_accept V2 (F 0 1 se)).1), V3)
          else
            ((-2), F)
    else
      ((-1), F)
set_option maxHeartbeats 4000000 in
set_option maxRecDepth 100000 in
theorem c_X7_set (l : Launch) (D : va_G) (Y : Nat → ClassId) (ad : Nat → Nat → Nat) (F : Nat → Nat → Nat → Int32) (setting : Int32) (value : Int32) (hh : hiOK F) (hb : boL (F 0)) (hb1 : ∀ k : Nat, boL (up1 (tr0 F) 1 k value)) : CtI l yX7_set wsX7_set 5 125 D (tyL Y) (FB Y ad F) [.ref (ad 8 2), .int setting, .int value] (C7_set F setting value).1 (FB Y ad (C7_set F setting value).2) := by
  refine CtI.intro (own := RX7) (cc := cX7_set) (maxL := 5) rfl (by decide +kernel) rfl (Nat.le_of_ble_eq_true rfl) (fun p e s m args below meth c A Q hA hQ cx hr => ?_)
  have hinX2 : ∀ w ∈ wsX20, w ∈ wsX7_set := by decide +kernel
  have hinX7 : ∀ w ∈ wsX70, w ∈ wsX7_set := by decide +kernel
  have f12 : Cond.fieldLink RX7 12 "FourPhases" "now" "LFourPhases$Line;" ∈ wsX7_set := by decide +kernel
  have f16 : Cond.fieldLink RX7 16 "FourPhases" "trial" "LFourPhases$Line;" ∈ wsX7_set := by decide +kernel
  have f83 : Cond.fieldLink RX7 83 "FourPhases$Line" "settings" "[I" ∈ wsX7_set := by decide +kernel
  refine j_iload_n cx (pc := 0) dX7_set_0 1 rfl ?_
  refine j_if_lt cx (pc := 1) (tgt := 9) dX7_set_1 (by decide) (fun c1_1 => ?_) (fun c1_1 => ?_)
  · skip
    refine j_iconst cx (pc := 9) (v := (-1)) dX7_set_9 (by decide) ?_
    subst hQ; exact j_iret cx hr (by simp only [C7_set, if_pos c1_1]) (by simp only [C7_set, if_pos c1_1]) hA dX7_set_10
  · skip
    refine j_iload_n cx (pc := 4) dX7_set_4 1 rfl ?_
    refine j_iconst cx (pc := 5) (v := (nI 3)) dX7_set_5 (by decide) ?_
    refine j_icmp_lt cx (pc := 6) (tgt := 11) dX7_set_6 (by decide) (fun c6_2 => ?_) (fun c6_2 => ?_)
    · skip
      refine j_iload_n cx (pc := 11) dX7_set_11 1 rfl ?_
      refine j_iconst cx (pc := 12) (v := (nI 2)) dX7_set_12 (by decide) ?_
      refine j_icmp_ne cx (pc := 13) (tgt := 20) dX7_set_13 (by decide) (fun c13_3 => ?_) (fun c13_3 => ?_)
      · skip
        refine j_bipush cx (pc := 20) (v := (nI 20)) dX7_set_20 (by decide) ?_
        refine j_istore_n cx (pc := 22) (lv' := [(3, .int (nI 20)), (0, .ref (ad 8 2)), (1, .int setting), (2, .int value)]) dX7_set_22 (by decide) rfl ?_
        refine j_iload_n cx (pc := 23) dX7_set_23 3 rfl ?_
        refine j_if_lt cx (pc := 24) (tgt := 32) dX7_set_24 (by decide) (fun c24_4 => ?_) (fun c24_4 => ?_)
        · skip
          refine j_bipush cx (pc := 32) (v := (-2)) dX7_set_32 (by decide) ?_
          subst hQ; exact j_iret cx hr (by simp only [C7_set, if_neg c1_1, if_pos c6_2, if_neg c13_3, if_pos c24_4]) (by simp only [C7_set, if_neg c1_1, if_pos c6_2, if_neg c13_3, if_pos c24_4]) hA dX7_set_34
        · skip
          refine j_iload_n cx (pc := 27) dX7_set_27 3 rfl ?_
          refine j_iload_n cx (pc := 28) dX7_set_28 0 rfl ?_
          refine j_icmp_le cx (pc := 29) (tgt := 35) dX7_set_29 (by decide) (fun c29_5 => ?_) (fun c29_5 => ?_)
          · skip
            refine j_aload_n cx (pc := 35) dX7_set_35 1 rfl ?_
            refine j_get cx (pc := 36) 85 0 rfl rfl (C := RX7) (T := TX7) (N := 6) rfl hinX7 0 (by decide) f12 rfl (v := .ref (ad 0 0)) rfl dX7_set_36 ?_
            refine j_get cx (pc := 39) 1 0 rfl rfl (C := RX2) (T := TX2) (N := 12) rfl hinX2 5 (by decide) f83 rfl (v := .ref (ad 0 1)) rfl dX7_set_39 ?_
            obtain ⟨se, hse⟩ : ∃ z : Nat, z = tN setting := ⟨_, rfl⟩
            have hse0 := lt2_of (by decide) c1_1 c6_2
            have hse1 : setting = nI se := by rw [hse]; exact hse0.1
            have hse2 : se < 3 := by rw [hse]; exact hse0.2
            refine j_iload_n cx (pc := 42) dX7_set_42 2 rfl ?_
            refine j_top (show setting = (nI se) from hse1) ?_
            refine j_iald cx (pc := 43) 1 1 0 rfl rfl rfl (by omega) (by decide) dX7_set_43 ?_
            refine j_istore cx (pc := 44) (lv' := [(4, .int (F 0 1 se)), (3, .int (nI 20)), (0, .ref (ad 8 2)), (1, .int setting), (2, .int value)]) dX7_set_44 (by decide) rfl ?_
            refine j_iload cx (pc := 46) dX7_set_46 0 rfl ?_
            refine j_iload_n cx (pc := 48) dX7_set_48 4 rfl ?_
            refine j_icmp_ne cx (pc := 49) (tgt := 55) dX7_set_49 (by decide) (fun c49_6 => ?_) (fun c49_6 => ?_)
            · skip
              refine j_aload_n cx (pc := 55) dX7_set_55 2 rfl ?_
              refine j_get cx (pc := 56) 85 0 rfl rfl (C := RX7) (T := TX7) (N := 6) rfl hinX7 1 (by decide) f16 rfl (v := .ref (ad 1 0)) rfl dX7_set_56 ?_
              refine j_aload_n cx (pc := 59) dX7_set_59 2 rfl ?_
              refine j_get cx (pc := 60) 85 0 rfl rfl (C := RX7) (T := TX7) (N := 6) rfl hinX7 0 (by decide) f12 rfl (v := .ref (ad 0 0)) rfl dX7_set_60 ?_
              obtain ⟨V1, hV1⟩ : ∃ z, z = setF F 1 (C2_copyFrom (F 1) (F 0)) := ⟨_, rfl⟩
              refine j_callv cx (pc := 63) 1 (c_X2_copyFrom l D Y (ad 1) (F 1) (ad 0) (F 0)  hb) gX7_set_X2_copyFrom rfl (by decide +kernel) rfl ⟨Nat.le_of_ble_eq_true rfl, Nat.le_of_ble_eq_true rfl⟩ (List.range' 61 12 ++ List.range' 1 12) (FB_s10 Y ad F) (by decide +kernel) (Bs' := FB Y ad V1) (by rw [hV1]; exact FB_p10 Y ad F _) A2_ln 61 0 rfl rfl rfl rfl (Nat.le_of_ble_eq_true rfl) dX7_set_63 ⟨Nat.zero_le _, Nat.zero_le _⟩ ?_
              refine j_aload_n cx (pc := 66) dX7_set_66 2 rfl ?_
              refine j_get cx (pc := 67) 85 0 rfl rfl (C := RX7) (T := TX7) (N := 6) rfl hinX7 1 (by decide) f16 rfl (v := .ref (ad 1 0)) rfl dX7_set_67 ?_
              refine j_get cx (pc := 70) 61 0 rfl rfl (C := RX2) (T := TX2) (N := 12) rfl hinX2 5 (by decide) f83 rfl (v := .ref (ad 1 1)) rfl dX7_set_70 ?_
              refine j_iload_n cx (pc := 73) dX7_set_73 3 rfl ?_
              refine j_top (show setting = (nI se) from hse1) ?_
              refine j_iload_n cx (pc := 74) dX7_set_74 4 rfl ?_
              obtain ⟨V2, hV2⟩ : ∃ z, z = setF V1 1 (up1 (V1 1) 1 se value) := ⟨_, rfl⟩
              refine j_iast cx (pc := 75) 61 1 0 rfl rfl rfl (by omega) (by decide) (Bs' := FB Y ad V2) (by rw [hV2]; exact FB_1_w Y ad V1 (i := 0) (V := (up1 (V1 1) 1 se value)) (by decide) rfl) dX7_set_75 ?_
              refine j_aload_n cx (pc := 76) dX7_set_76 2 rfl ?_
              refine j_iload cx (pc := 77) dX7_set_77 0 rfl ?_
              obtain ⟨V3, hV3⟩ : ∃ z, z = (C7_accept V2 (F 0 1 se)).2 := ⟨_, rfl⟩
              refine j_calli cx (pc := 79) 1 (c_X7_accept l D Y ad V2 (F 0 1 se) (by subst hV2; subst hV1; (try simp only [setF_eq, nf_01, nf_02, nf_07, nf_08, nf_10, nf_12, nf_17, nf_18, nf_20, nf_21, nf_27, nf_28, nf_70, nf_71, nf_72, nf_78, nf_80, nf_81, nf_82, nf_87]); exact hh) (by subst hV2; subst hV1; (try simp only [setF_eq, nf_01, nf_02, nf_07, nf_08, nf_10, nf_12, nf_17, nf_18, nf_20, nf_21, nf_27, nf_28, nf_70, nf_71, nf_72, nf_78, nf_80, nf_81, nf_82, nf_87]); exact hb) (by subst hV2; subst hV1; (try simp only [setF_eq, nf_01, nf_02, nf_07, nf_08, nf_10, nf_12, nf_17, nf_18, nf_20, nf_21, nf_27, nf_28, nf_70, nf_71, nf_72, nf_78, nf_80, nf_81, nf_82, nf_87]); exact (hb1 _))) gX7_set_X7_accept rfl (by decide +kernel) rfl ⟨Nat.le_of_ble_eq_true rfl, Nat.le_of_ble_eq_true rfl⟩ (List.range 87) (sel_all (FB_len Y ad _)) nd_range87 (Bs' := FB Y ad V3) (by rw [hV3]; exact put_all (FB_len Y ad _) (FB_len Y ad _)) A1_FB 85 0 rfl rfl rfl rfl (Nat.le_of_ble_eq_true rfl) dX7_set_79 ⟨Nat.zero_le _, Nat.zero_le _⟩ ?_
              subst hQ; exact j_iret cx hr (by subst hV3; subst hV2; subst hV1; subst hse; simp only [C7_set, if_neg c1_1, if_pos c6_2, if_neg c13_3, if_neg c24_4, if_pos c29_5, if_neg c49_6]) (by subst hV3; subst hV2; subst hV1; subst hse; simp only [C7_set, if_neg c1_1, if_pos c6_2, if_neg c13_3, if_neg c24_4, if_pos c29_5, if_neg c49_6]) hA dX7_set_82
            · skip
              refine j_bipush cx (pc := 52) (v := (-5)) dX7_set_52 (by decide) ?_
              subst hQ; exact j_iret cx hr (by subst hse; simp only [C7_set, if_neg c1_1, if_pos c6_2, if_neg c13_3, if_neg c24_4, if_pos c29_5, if_pos c49_6]) (by subst hse; simp only [C7_set, if_neg c1_1, if_pos c6_2, if_neg c13_3, if_neg c24_4, if_pos c29_5, if_pos c49_6]) hA dX7_set_54
          · skip
            refine j_bipush cx (pc := 32) (v := (-2)) dX7_set_32 (by decide) ?_
            subst hQ; exact j_iret cx hr (by simp only [C7_set, if_neg c1_1, if_pos c6_2, if_neg c13_3, if_neg c24_4, if_neg c29_5]) (by simp only [C7_set, if_neg c1_1, if_pos c6_2, if_neg c13_3, if_neg c24_4, if_neg c29_5]) hA dX7_set_34
      · skip
        refine j_iconst cx (pc := 16) (v := (nI 1)) dX7_set_16 (by decide) ?_
        refine j_goto cx (pc := 17) (tgt := 22) dX7_set_17 (by decide) ?_
        refine j_istore_n cx (pc := 22) (lv' := [(3, .int (nI 1)), (0, .ref (ad 8 2)), (1, .int setting), (2, .int value)]) dX7_set_22 (by decide) rfl ?_
        refine j_iload_n cx (pc := 23) dX7_set_23 3 rfl ?_
        refine j_if_lt cx (pc := 24) (tgt := 32) dX7_set_24 (by decide) (fun c24_7 => ?_) (fun c24_7 => ?_)
        · skip
          refine j_bipush cx (pc := 32) (v := (-2)) dX7_set_32 (by decide) ?_
          subst hQ; exact j_iret cx hr (by simp only [C7_set, if_neg c1_1, if_pos c6_2, if_pos c13_3, if_pos c24_7]) (by simp only [C7_set, if_neg c1_1, if_pos c6_2, if_pos c13_3, if_pos c24_7]) hA dX7_set_34
        · skip
          refine j_iload_n cx (pc := 27) dX7_set_27 3 rfl ?_
          refine j_iload_n cx (pc := 28) dX7_set_28 0 rfl ?_
          refine j_icmp_le cx (pc := 29) (tgt := 35) dX7_set_29 (by decide) (fun c29_8 => ?_) (fun c29_8 => ?_)
          · skip
            refine j_aload_n cx (pc := 35) dX7_set_35 1 rfl ?_
            refine j_get cx (pc := 36) 85 0 rfl rfl (C := RX7) (T := TX7) (N := 6) rfl hinX7 0 (by decide) f12 rfl (v := .ref (ad 0 0)) rfl dX7_set_36 ?_
            refine j_get cx (pc := 39) 1 0 rfl rfl (C := RX2) (T := TX2) (N := 12) rfl hinX2 5 (by decide) f83 rfl (v := .ref (ad 0 1)) rfl dX7_set_39 ?_
            obtain ⟨se, hse⟩ : ∃ z : Nat, z = tN setting := ⟨_, rfl⟩
            have hse0 := lt2_of (by decide) c1_1 c6_2
            have hse1 : setting = nI se := by rw [hse]; exact hse0.1
            have hse2 : se < 3 := by rw [hse]; exact hse0.2
            refine j_iload_n cx (pc := 42) dX7_set_42 2 rfl ?_
            refine j_top (show setting = (nI se) from hse1) ?_
            refine j_iald cx (pc := 43) 1 1 0 rfl rfl rfl (by omega) (by decide) dX7_set_43 ?_
            refine j_istore cx (pc := 44) (lv' := [(4, .int (F 0 1 se)), (3, .int (nI 1)), (0, .ref (ad 8 2)), (1, .int setting), (2, .int value)]) dX7_set_44 (by decide) rfl ?_
            refine j_iload cx (pc := 46) dX7_set_46 0 rfl ?_
            refine j_iload_n cx (pc := 48) dX7_set_48 4 rfl ?_
            refine j_icmp_ne cx (pc := 49) (tgt := 55) dX7_set_49 (by decide) (fun c49_9 => ?_) (fun c49_9 => ?_)
            · skip
              refine j_aload_n cx (pc := 55) dX7_set_55 2 rfl ?_
              refine j_get cx (pc := 56) 85 0 rfl rfl (C := RX7) (T := TX7) (N := 6) rfl hinX7 1 (by decide) f16 rfl (v := .ref (ad 1 0)) rfl dX7_set_56 ?_
              refine j_aload_n cx (pc := 59) dX7_set_59 2 rfl ?_
              refine j_get cx (pc := 60) 85 0 rfl rfl (C := RX7) (T := TX7) (N := 6) rfl hinX7 0 (by decide) f12 rfl (v := .ref (ad 0 0)) rfl dX7_set_60 ?_
              obtain ⟨V4, hV4⟩ : ∃ z, z = setF F 1 (C2_copyFrom (F 1) (F 0)) := ⟨_, rfl⟩
              refine j_callv cx (pc := 63) 1 (c_X2_copyFrom l D Y (ad 1) (F 1) (ad 0) (F 0)  hb) gX7_set_X2_copyFrom rfl (by decide +kernel) rfl ⟨Nat.le_of_ble_eq_true rfl, Nat.le_of_ble_eq_true rfl⟩ (List.range' 61 12 ++ List.range' 1 12) (FB_s10 Y ad F) (by decide +kernel) (Bs' := FB Y ad V4) (by rw [hV4]; exact FB_p10 Y ad F _) A2_ln 61 0 rfl rfl rfl rfl (Nat.le_of_ble_eq_true rfl) dX7_set_63 ⟨Nat.zero_le _, Nat.zero_le _⟩ ?_
              refine j_aload_n cx (pc := 66) dX7_set_66 2 rfl ?_
              refine j_get cx (pc := 67) 85 0 rfl rfl (C := RX7) (T := TX7) (N := 6) rfl hinX7 1 (by decide) f16 rfl (v := .ref (ad 1 0)) rfl dX7_set_67 ?_
              refine j_get cx (pc := 70) 61 0 rfl rfl (C := RX2) (T := TX2) (N := 12) rfl hinX2 5 (by decide) f83 rfl (v := .ref (ad 1 1)) rfl dX7_set_70 ?_
              refine j_iload_n cx (pc := 73) dX7_set_73 3 rfl ?_
              refine j_top (show setting = (nI se) from hse1) ?_
              refine j_iload_n cx (pc := 74) dX7_set_74 4 rfl ?_
              obtain ⟨V5, hV5⟩ : ∃ z, z = setF V4 1 (up1 (V4 1) 1 se value) := ⟨_, rfl⟩
              refine j_iast cx (pc := 75) 61 1 0 rfl rfl rfl (by omega) (by decide) (Bs' := FB Y ad V5) (by rw [hV5]; exact FB_1_w Y ad V4 (i := 0) (V := (up1 (V4 1) 1 se value)) (by decide) rfl) dX7_set_75 ?_
              refine j_aload_n cx (pc := 76) dX7_set_76 2 rfl ?_
              refine j_iload cx (pc := 77) dX7_set_77 0 rfl ?_
              obtain ⟨V6, hV6⟩ : ∃ z, z = (C7_accept V5 (F 0 1 se)).2 := ⟨_, rfl⟩
              refine j_calli cx (pc := 79) 1 (c_X7_accept l D Y ad V5 (F 0 1 se) (by subst hV5; subst hV4; (try simp only [setF_eq, nf_01, nf_02, nf_07, nf_08, nf_10, nf_12, nf_17, nf_18, nf_20, nf_21, nf_27, nf_28, nf_70, nf_71, nf_72, nf_78, nf_80, nf_81, nf_82, nf_87]); exact hh) (by subst hV5; subst hV4; (try simp only [setF_eq, nf_01, nf_02, nf_07, nf_08, nf_10, nf_12, nf_17, nf_18, nf_20, nf_21, nf_27, nf_28, nf_70, nf_71, nf_72, nf_78, nf_80, nf_81, nf_82, nf_87]); exact hb) (by subst hV5; subst hV4; (try simp only [setF_eq, nf_01, nf_02, nf_07, nf_08, nf_10, nf_12, nf_17, nf_18, nf_20, nf_21, nf_27, nf_28, nf_70, nf_71, nf_72, nf_78, nf_80, nf_81, nf_82, nf_87]); exact (hb1 _))) gX7_set_X7_accept rfl (by decide +kernel) rfl ⟨Nat.le_of_ble_eq_true rfl, Nat.le_of_ble_eq_true rfl⟩ (List.range 87) (sel_all (FB_len Y ad _)) nd_range87 (Bs' := FB Y ad V6) (by rw [hV6]; exact put_all (FB_len Y ad _) (FB_len Y ad _)) A1_FB 85 0 rfl rfl rfl rfl (Nat.le_of_ble_eq_true rfl) dX7_set_79 ⟨Nat.zero_le _, Nat.zero_le _⟩ ?_
              subst hQ; exact j_iret cx hr (by subst hV6; subst hV5; subst hV4; subst hse; simp only [C7_set, if_neg c1_1, if_pos c6_2, if_pos c13_3, if_neg c24_7, if_pos c29_8, if_neg c49_9]) (by subst hV6; subst hV5; subst hV4; subst hse; simp only [C7_set, if_neg c1_1, if_pos c6_2, if_pos c13_3, if_neg c24_7, if_pos c29_8, if_neg c49_9]) hA dX7_set_82
            · skip
              refine j_bipush cx (pc := 52) (v := (-5)) dX7_set_52 (by decide) ?_
              subst hQ; exact j_iret cx hr (by subst hse; simp only [C7_set, if_neg c1_1, if_pos c6_2, if_pos c13_3, if_neg c24_7, if_pos c29_8, if_pos c49_9]) (by subst hse; simp only [C7_set, if_neg c1_1, if_pos c6_2, if_pos c13_3, if_neg c24_7, if_pos c29_8, if_pos c49_9]) hA dX7_set_54
          · skip
            refine j_bipush cx (pc := 32) (v := (-2)) dX7_set_32 (by decide) ?_
            subst hQ; exact j_iret cx hr (by simp only [C7_set, if_neg c1_1, if_pos c6_2, if_pos c13_3, if_neg c24_7, if_neg c29_8]) (by simp only [C7_set, if_neg c1_1, if_pos c6_2, if_pos c13_3, if_neg c24_7, if_neg c29_8]) hA dX7_set_34
    · skip
      refine j_iconst cx (pc := 9) (v := (-1)) dX7_set_9 (by decide) ?_
      subst hQ; exact j_iret cx hr (by simp only [C7_set, if_neg c1_1, if_neg c6_2]) (by simp only [C7_set, if_neg c1_1, if_neg c6_2]) hA dX7_set_10
def C7_clearText (F : Nat → Nat → Nat → Int32)  : Int32 × (Nat → Nat → Nat → Int32) :=
  let V1 := setF F 7 (up1 (F 7) 0 0 (nI 0))
  ((F 7 0 0), V1)
def C7_undo (F : Nat → Nat → Nat → Int32)  : Int32 × (Nat → Nat → Nat → Int32) :=
  let V1 := (C1_giveBack F ).2
  (((C1_giveBack F ).1), V1)
set_option maxHeartbeats 4000000 in
set_option maxRecDepth 100000 in
theorem c_X7_undo (l : Launch) (D : va_G) (Y : Nat → ClassId) (ad : Nat → Nat → Nat) (F : Nat → Nat → Nat → Int32)  (hh : hiOK F) (hbg : 0 < F 8 0 0 → boL (F (3 + hsG F))) : CtI l yX7_undo wsX7_undo 4 104 D (tyL Y) (FB Y ad F) [.ref (ad 8 2)] (C7_undo F ).1 (FB Y ad (C7_undo F ).2) := by
  refine CtI.intro (own := RX7) (cc := cX7_undo) (maxL := 1) rfl (by decide +kernel) rfl (Nat.le_of_ble_eq_true rfl) (fun p e s m args below meth c A Q hA hQ cx hr => ?_)
  have hinX7 : ∀ w ∈ wsX70, w ∈ wsX7_undo := by decide +kernel
  have f12 : Cond.fieldLink RX7 12 "FourPhases" "now" "LFourPhases$Line;" ∈ wsX7_undo := by decide +kernel
  have f29 : Cond.fieldLink RX7 29 "FourPhases" "history" "LFourPhases$History;" ∈ wsX7_undo := by decide +kernel
  refine j_aload_n cx (pc := 0) dX7_undo_0 0 rfl ?_
  refine j_get cx (pc := 1) 85 0 rfl rfl (C := RX7) (T := TX7) (N := 6) rfl hinX7 4 (by decide) f29 rfl (v := .ref (ad 8 0)) rfl dX7_undo_1 ?_
  refine j_aload_n cx (pc := 4) dX7_undo_4 0 rfl ?_
  refine j_get cx (pc := 5) 85 0 rfl rfl (C := RX7) (T := TX7) (N := 6) rfl hinX7 0 (by decide) f12 rfl (v := .ref (ad 0 0)) rfl dX7_undo_5 ?_
  obtain ⟨V1, hV1⟩ : ∃ z, z = (C1_giveBack F ).2 := ⟨_, rfl⟩
  refine j_calli cx (pc := 8) 1 (c_X1_giveBack l D Y ad F  hh hbg) gX7_undo_X1_giveBack rfl (by decide +kernel) rfl ⟨Nat.le_of_ble_eq_true rfl, Nat.le_of_ble_eq_true rfl⟩ (List.range 61) (FB_selH Y ad _) nd_range61 (Bs' := FB Y ad V1) (by rw [hV1]; exact FB_putH Y ad _ _ (kC1_giveBack _)) A1_HB 0 0 rfl rfl rfl rfl (Nat.le_of_ble_eq_true rfl) dX7_undo_8 ⟨Nat.zero_le _, Nat.zero_le _⟩ ?_
  subst hQ; exact j_iret cx hr (by subst hV1; simp only [C7_undo]) (by subst hV1; simp only [C7_undo]) hA dX7_undo_11
def C7_keep (F : Nat → Nat → Nat → Int32)  : Int32 × (Nat → Nat → Nat → Int32) :=
  let V1 := setF F 2 (C2_copyFrom (F 2) (F 0))
  let V2 := setF V1 8 (up1 (V1 8) 0 1 (nI 1))
  ((V2 0 0 1), V2)
def C7_restore (F : Nat → Nat → Nat → Int32)  : Int32 × (Nat → Nat → Nat → Int32) :=
  if (F 8 0 1) = 0 then
    ((-5), F)
  else
    let V1 := setF F 1 (C2_copyFrom (F 1) (F 2))
    let V2 := (C7_accept V1 (V1 2 0 1)).2
    (((C7_accept V1 (V1 2 0 1)).1), V2)
