def C7_link (F : Nat → Nat → Nat → Int32) (link : Int32) (what : Int32) : Int32 :=
  if (C2_hasLink (F 0) link) = 0 then
    (-1)
  else
    let lk := tN link
    (C3_tell (lkU (F 0) lk) what (F 0 1 0))
set_option maxHeartbeats 4000000 in
set_option maxRecDepth 100000 in
theorem c_X7_link (l : Launch) (D : va_G) (Y : Nat → ClassId) (ad : Nat → Nat → Nat) (F : Nat → Nat → Nat → Int32) (link : Int32) (what : Int32) (hst : vp_in (F 0 0 0) 7) : CtI l yX7_link wsX7_link 1 22 D (tyL Y) (FB Y ad F) [.ref (ad 8 2), .int link, .int what] (C7_link F link what) (FB Y ad F) := by
  refine CtI.intro (own := RX7) (cc := cX7_link) (maxL := 3) rfl (by decide +kernel) rfl (Nat.le_of_ble_eq_true rfl) (fun p e s m args below meth c A Q hA hQ cx hr => ?_)
  have hinX2 : ∀ w ∈ wsX20, w ∈ wsX7_link := by decide +kernel
  have hinX7 : ∀ w ∈ wsX70, w ∈ wsX7_link := by decide +kernel
  have f12 : Cond.fieldLink RX7 12 "FourPhases" "now" "LFourPhases$Line;" ∈ wsX7_link := by decide +kernel
  have f83 : Cond.fieldLink RX7 83 "FourPhases$Line" "settings" "[I" ∈ wsX7_link := by decide +kernel
  have f117 : Cond.fieldLink RX7 117 "FourPhases$Line" "links" "[LFourPhases$Link;" ∈ wsX7_link := by decide +kernel
  refine j_aload_n cx (pc := 0) dX7_link_0 0 rfl ?_
  refine j_get cx (pc := 1) 85 0 rfl rfl (C := RX7) (T := TX7) (N := 6) rfl hinX7 0 (by decide) f12 rfl (v := .ref (ad 0 0)) rfl dX7_link_1 ?_
  refine j_iload_n cx (pc := 4) dX7_link_4 1 rfl ?_
  refine j_calli cx (pc := 5) 1 (c_X2_hasLink l D Y (ad 0) (F 0) link ) gX7_link_X2_hasLink rfl (by decide +kernel) rfl ⟨Nat.le_of_ble_eq_true rfl, Nat.le_of_ble_eq_true rfl⟩ (List.range' 1 12) (FB_0_s Y ad F) (by decide +kernel) (Bs' := FB Y ad F) (putL_same (FB_0_s Y ad F)) rfl 1 0 rfl rfl rfl rfl (Nat.le_of_ble_eq_true rfl) dX7_link_5 ⟨Nat.zero_le _, Nat.zero_le _⟩ ?_
  refine j_if_ne cx (pc := 8) (tgt := 13) dX7_link_8 (by decide) (fun c8_1 => ?_) (fun c8_1 => ?_)
  · skip
    refine j_aload_n cx (pc := 13) dX7_link_13 0 rfl ?_
    refine j_get cx (pc := 14) 85 0 rfl rfl (C := RX7) (T := TX7) (N := 6) rfl hinX7 0 (by decide) f12 rfl (v := .ref (ad 0 0)) rfl dX7_link_14 ?_
    refine j_get cx (pc := 17) 1 0 rfl rfl (C := RX2) (T := TX2) (N := 12) rfl hinX2 6 (by decide) f117 rfl (v := .ref (ad 0 2)) rfl dX7_link_17 ?_
    obtain ⟨lk, hlk⟩ : ∃ z : Nat, z = tN link := ⟨_, rfl⟩
    have hlk0 := hl_ok hst c8_1
    have hlk1 : link = nI lk := by rw [hlk]; exact hlk0.1
    have hlk2 : lk < 7 := by rw [hlk]; exact hlk0.2.1
    refine j_iload_n cx (pc := 20) dX7_link_20 1 rfl ?_
    refine j_top (show link = (nI lk) from hlk1) ?_
    refine j_aald cx (pc := 21) 1 2 3 rfl rfl rfl (by omega) (by decide) (a' := (ad 0 (13 + 2 * lk))) rfl dX7_link_21 ?_
    refine j_iload_n cx (pc := 22) dX7_link_22 2 rfl ?_
    refine j_aload_n cx (pc := 23) dX7_link_23 0 rfl ?_
    refine j_get cx (pc := 24) 85 0 rfl rfl (C := RX7) (T := TX7) (N := 6) rfl hinX7 0 (by decide) f12 rfl (v := .ref (ad 0 0)) rfl dX7_link_24 ?_
    refine j_get cx (pc := 27) 1 0 rfl rfl (C := RX2) (T := TX2) (N := 12) rfl hinX2 5 (by decide) f83 rfl (v := .ref (ad 0 1)) rfl dX7_link_27 ?_
    refine j_iconst cx (pc := 30) (v := (nI 0)) dX7_link_30 (by decide) ?_
    refine j_iald cx (pc := 31) 1 1 0 rfl rfl rfl (by decide) (by decide) dX7_link_31 ?_
    refine j_calli cx (pc := 32) 2 (c_X3_tell l D Y (ad 0 (13 + 2 * lk)) (ad 0 (14 + 2 * lk)) (lkU (F 0) lk) what (F 0 1 0) ) gX7_link_X3_tell rfl (by decide +kernel) rfl ⟨Nat.le_of_ble_eq_true rfl, Nat.le_of_ble_eq_true rfl⟩ [(4 + lk)] (FB_lkS0 Y ad F hlk2) rfl (Bs' := FB Y ad F) (putL_same (FB_lkS0 Y ad F hlk2)) rfl (4 + lk) 0 (FB_lk0 Y ad F hlk2) rfl rfl rfl (Nat.le_of_ble_eq_true rfl) dX7_link_32 ⟨Nat.zero_le _, Nat.zero_le _⟩ ?_
    subst hQ; exact j_iret cx hr (by subst hlk; simp only [C7_link, if_neg c8_1]) rfl hA dX7_link_35
  · skip
    refine j_iconst cx (pc := 11) (v := (-1)) dX7_link_11 (by decide) ?_
    subst hQ; exact j_iret cx hr (by simp only [C7_link, if_pos c8_1]) rfl hA dX7_link_12
def C7_stage (F : Nat → Nat → Nat → Int32) (stage : Int32) : Int32 :=
  if stage < 0 then
    (-1)
  else
    if stage < (F 0 0 0) then
      let sg := tN stage
      if (F 0 2 sg) = (-1) then
        (-5)
      else
        (F 0 2 sg)
    else
      (-1)
set_option maxHeartbeats 4000000 in
set_option maxRecDepth 100000 in
theorem c_X7_stage (l : Launch) (D : va_G) (Y : Nat → ClassId) (ad : Nat → Nat → Nat) (F : Nat → Nat → Nat → Int32) (stage : Int32) (hst : vp_in (F 0 0 0) 7) : CtI l yX7_stage wsX7_stage 0 0 D (tyL Y) (FB Y ad F) [.ref (ad 8 2), .int stage] (C7_stage F stage) (FB Y ad F) := by
  refine CtI.intro (own := RX7) (cc := cX7_stage) (maxL := 3) rfl (by decide +kernel) rfl (Nat.le_of_ble_eq_true rfl) (fun p e s m args below meth c A Q hA hQ cx hr => ?_)
  have hinX2 : ∀ w ∈ wsX20, w ∈ wsX7_stage := by decide +kernel
  have hinX7 : ∀ w ∈ wsX70, w ∈ wsX7_stage := by decide +kernel
  have f12 : Cond.fieldLink RX7 12 "FourPhases" "now" "LFourPhases$Line;" ∈ wsX7_stage := by decide +kernel
  have f126 : Cond.fieldLink RX7 126 "FourPhases$Line" "stages" "I" ∈ wsX7_stage := by decide +kernel
  have f129 : Cond.fieldLink RX7 129 "FourPhases$Line" "held" "[I" ∈ wsX7_stage := by decide +kernel
  refine j_iload_n cx (pc := 0) dX7_stage_0 1 rfl ?_
  refine j_if_lt cx (pc := 1) (tgt := 15) dX7_stage_1 (by decide) (fun c1_1 => ?_) (fun c1_1 => ?_)
  · skip
    refine j_iconst cx (pc := 15) (v := (-1)) dX7_stage_15 (by decide) ?_
    subst hQ; exact j_iret cx hr (by simp only [C7_stage, if_pos c1_1]) rfl hA dX7_stage_16
  · skip
    refine j_iload_n cx (pc := 4) dX7_stage_4 1 rfl ?_
    refine j_aload_n cx (pc := 5) dX7_stage_5 0 rfl ?_
    refine j_get cx (pc := 6) 85 0 rfl rfl (C := RX7) (T := TX7) (N := 6) rfl hinX7 0 (by decide) f12 rfl (v := .ref (ad 0 0)) rfl dX7_stage_6 ?_
    refine j_get cx (pc := 9) 1 0 rfl rfl (C := RX2) (T := TX2) (N := 12) rfl hinX2 0 (by decide) f126 rfl (v := .int (F 0 0 0)) rfl dX7_stage_9 ?_
    refine j_icmp_lt cx (pc := 12) (tgt := 17) dX7_stage_12 (by decide) (fun c12_2 => ?_) (fun c12_2 => ?_)
    · skip
      refine j_aload_n cx (pc := 17) dX7_stage_17 0 rfl ?_
      refine j_get cx (pc := 18) 85 0 rfl rfl (C := RX7) (T := TX7) (N := 6) rfl hinX7 0 (by decide) f12 rfl (v := .ref (ad 0 0)) rfl dX7_stage_18 ?_
      refine j_get cx (pc := 21) 1 0 rfl rfl (C := RX2) (T := TX2) (N := 12) rfl hinX2 7 (by decide) f129 rfl (v := .ref (ad 0 3)) rfl dX7_stage_21 ?_
      obtain ⟨sg, hsg⟩ : ∃ z : Nat, z = tN stage := ⟨_, rfl⟩
      have hst7 : tN (F 0 0 0) < 7 := inL hst
      have hsg0 := lt2_of (tN_lt _) c1_1 (by rw [← inN hst]; exact c12_2)
      have hsg1 : stage = nI sg := by rw [hsg]; exact hsg0.1
      have hsg2 : sg < 6 := by have := hsg0.2; omega
      refine j_iload_n cx (pc := 24) dX7_stage_24 1 rfl ?_
      refine j_top (show stage = (nI sg) from hsg1) ?_
      refine j_iald cx (pc := 25) 1 3 0 rfl rfl rfl (by omega) (by decide) dX7_stage_25 ?_
      refine j_istore_n cx (pc := 26) (lv' := [(2, .int (F 0 2 sg)), (0, .ref (ad 8 2)), (1, .int stage)]) dX7_stage_26 (by decide) rfl ?_
      refine j_iload_n cx (pc := 27) dX7_stage_27 0 rfl ?_
      refine j_iconst cx (pc := 28) (v := (-1)) dX7_stage_28 (by decide) ?_
      refine j_icmp_ne cx (pc := 29) (tgt := 37) dX7_stage_29 (by decide) (fun c29_3 => ?_) (fun c29_3 => ?_)
      · skip
        refine j_iload_n cx (pc := 37) dX7_stage_37 0 rfl ?_
        subst hQ; exact j_iret cx hr (by subst hsg; simp only [C7_stage, if_neg c1_1, if_pos c12_2, if_neg c29_3]) rfl hA dX7_stage_38
      · skip
        refine j_bipush cx (pc := 32) (v := (-5)) dX7_stage_32 (by decide) ?_
        refine j_goto cx (pc := 34) (tgt := 38) dX7_stage_34 (by decide) ?_
        subst hQ; exact j_iret cx hr (by subst hsg; simp only [C7_stage, if_neg c1_1, if_pos c12_2, if_pos c29_3]) rfl hA dX7_stage_38
    · skip
      refine j_iconst cx (pc := 15) (v := (-1)) dX7_stage_15 (by decide) ?_
      subst hQ; exact j_iret cx hr (by simp only [C7_stage, if_neg c1_1, if_neg c12_2]) rfl hA dX7_stage_16
def C7_waiting (F : Nat → Nat → Nat → Int32) (sender : Int32) (place : Int32) : Int32 :=
  if sender < 0 then
    (-1)
  else
    if sender < (nI 2) then
      if 0 ≤ place then
        let sn := tN sender
        if (C5_wordAt (rwU (F 0) sn) place) = (-1) then
          (-5)
        else
          (C5_wordAt (rwU (F 0) sn) place)
      else
        (-2)
    else
      (-1)
set_option maxHeartbeats 4000000 in
set_option maxRecDepth 100000 in
theorem c_X7_waiting (l : Launch) (D : va_G) (Y : Nat → ClassId) (ad : Nat → Nat → Nat) (F : Nat → Nat → Nat → Int32) (sender : Int32) (place : Int32) (hr0 : vp_in (F 0 27 0) 21) (hr1 : vp_in (F 0 28 0) 21) : CtI l yX7_waiting wsX7_waiting 1 21 D (tyL Y) (FB Y ad F) [.ref (ad 8 2), .int sender, .int place] (C7_waiting F sender place) (FB Y ad F) := by
  refine CtI.intro (own := RX7) (cc := cX7_waiting) (maxL := 4) rfl (by decide +kernel) rfl (Nat.le_of_ble_eq_true rfl) (fun p e s m args below meth c A Q hA hQ cx hr => ?_)
  have hinX2 : ∀ w ∈ wsX20, w ∈ wsX7_waiting := by decide +kernel
  have hinX7 : ∀ w ∈ wsX70, w ∈ wsX7_waiting := by decide +kernel
  have f12 : Cond.fieldLink RX7 12 "FourPhases" "now" "LFourPhases$Line;" ∈ wsX7_waiting := by decide +kernel
  have f132 : Cond.fieldLink RX7 132 "FourPhases$Line" "rows" "[LFourPhases$Row;" ∈ wsX7_waiting := by decide +kernel
  refine j_iload_n cx (pc := 0) dX7_waiting_0 1 rfl ?_
  refine j_if_lt cx (pc := 1) (tgt := 9) dX7_waiting_1 (by decide) (fun c1_1 => ?_) (fun c1_1 => ?_)
  · skip
    refine j_iconst cx (pc := 9) (v := (-1)) dX7_waiting_9 (by decide) ?_
    subst hQ; exact j_iret cx hr (by simp only [C7_waiting, if_pos c1_1]) rfl hA dX7_waiting_10
  · skip
    refine j_iload_n cx (pc := 4) dX7_waiting_4 1 rfl ?_
    refine j_iconst cx (pc := 5) (v := (nI 2)) dX7_waiting_5 (by decide) ?_
    refine j_icmp_lt cx (pc := 6) (tgt := 11) dX7_waiting_6 (by decide) (fun c6_2 => ?_) (fun c6_2 => ?_)
    · skip
      refine j_iload_n cx (pc := 11) dX7_waiting_11 2 rfl ?_
      refine j_if_ge cx (pc := 12) (tgt := 18) dX7_waiting_12 (by decide) (fun c12_3 => ?_) (fun c12_3 => ?_)
      · skip
        refine j_aload_n cx (pc := 18) dX7_waiting_18 0 rfl ?_
        refine j_get cx (pc := 19) 85 0 rfl rfl (C := RX7) (T := TX7) (N := 6) rfl hinX7 0 (by decide) f12 rfl (v := .ref (ad 0 0)) rfl dX7_waiting_19 ?_
        refine j_get cx (pc := 22) 1 0 rfl rfl (C := RX2) (T := TX2) (N := 12) rfl hinX2 8 (by decide) f132 rfl (v := .ref (ad 0 4)) rfl dX7_waiting_22 ?_
        obtain ⟨sn, hsn⟩ : ∃ z : Nat, z = tN sender := ⟨_, rfl⟩
        have hsn0 := lt2_of (by decide) c1_1 c6_2
        have hsn1 : sender = nI sn := by rw [hsn]; exact hsn0.1
        have hsn2 : sn < 2 := by rw [hsn]; exact hsn0.2
        refine j_iload_n cx (pc := 25) dX7_waiting_25 1 rfl ?_
        refine j_top (show sender = (nI sn) from hsn1) ?_
        refine j_aald cx (pc := 26) 1 4 4 rfl rfl rfl (by omega) (by decide) (a' := (ad 0 (27 + 2 * sn))) rfl dX7_waiting_26 ?_
        refine j_iload_n cx (pc := 27) dX7_waiting_27 2 rfl ?_
        refine j_calli cx (pc := 28) 1 (c_X5_wordAt l D Y (ad 0 (27 + 2 * sn)) (ad 0 (28 + 2 * sn)) (rwU (F 0) sn) place (rw_ok hr0 hr1 hsn2)) gX7_waiting_X5_wordAt rfl (by decide +kernel) rfl ⟨Nat.le_of_ble_eq_true rfl, Nat.le_of_ble_eq_true rfl⟩ [(11 + sn)] (FB_rwS0 Y ad F hsn2) rfl (Bs' := FB Y ad F) (putL_same (FB_rwS0 Y ad F hsn2)) rfl (11 + sn) 0 (FB_rw0 Y ad F hsn2) rfl rfl rfl (Nat.le_of_ble_eq_true rfl) dX7_waiting_28 ⟨Nat.zero_le _, Nat.zero_le _⟩ ?_
        refine j_istore_n cx (pc := 31) (lv' := [(3, .int (C5_wordAt (rwU (F 0) sn) place)), (0, .ref (ad 8 2)), (1, .int sender), (2, .int place)]) dX7_waiting_31 (by decide) rfl ?_
        refine j_iload_n cx (pc := 32) dX7_waiting_32 0 rfl ?_
        refine j_iconst cx (pc := 33) (v := (-1)) dX7_waiting_33 (by decide) ?_
        refine j_icmp_ne cx (pc := 34) (tgt := 42) dX7_waiting_34 (by decide) (fun c34_4 => ?_) (fun c34_4 => ?_)
        · skip
          refine j_iload_n cx (pc := 42) dX7_waiting_42 0 rfl ?_
          subst hQ; exact j_iret cx hr (by subst hsn; simp only [C7_waiting, if_neg c1_1, if_pos c6_2, if_pos c12_3, if_neg c34_4]) rfl hA dX7_waiting_43
        · skip
          refine j_bipush cx (pc := 37) (v := (-5)) dX7_waiting_37 (by decide) ?_
          refine j_goto cx (pc := 39) (tgt := 43) dX7_waiting_39 (by decide) ?_
          subst hQ; exact j_iret cx hr (by subst hsn; simp only [C7_waiting, if_neg c1_1, if_pos c6_2, if_pos c12_3, if_pos c34_4]) rfl hA dX7_waiting_43
      · skip
        refine j_bipush cx (pc := 15) (v := (-2)) dX7_waiting_15 (by decide) ?_
        subst hQ; exact j_iret cx hr (by simp only [C7_waiting, if_neg c1_1, if_pos c6_2, if_neg c12_3]) rfl hA dX7_waiting_17
    · skip
      refine j_iconst cx (pc := 9) (v := (-1)) dX7_waiting_9 (by decide) ?_
      subst hQ; exact j_iret cx hr (by simp only [C7_waiting, if_neg c1_1, if_neg c6_2]) rfl hA dX7_waiting_10
def C7_noted (F : Nat → Nat → Nat → Int32) (rank : Int32) (what : Int32) : Int32 :=
  if rank < 0 then
    (-2)
  else
    if what < 0 then
      (-2)
    else
      if what ≤ (nI 2) then
        (C4_tell (ntU (F 0)) rank what)
      else
        (-2)
set_option maxHeartbeats 4000000 in
set_option maxRecDepth 100000 in
theorem c_X7_noted (l : Launch) (D : va_G) (Y : Nat → ClassId) (ad : Nat → Nat → Nat) (F : Nat → Nat → Nat → Int32) (rank : Int32) (what : Int32) (hnt : ¬ F 0 7 0 < 0) : CtI l yX7_noted wsX7_noted 1 23 D (tyL Y) (FB Y ad F) [.ref (ad 8 2), .int rank, .int what] (C7_noted F rank what) (FB Y ad F) := by
  refine CtI.intro (own := RX7) (cc := cX7_noted) (maxL := 3) rfl (by decide +kernel) rfl (Nat.le_of_ble_eq_true rfl) (fun p e s m args below meth c A Q hA hQ cx hr => ?_)
  have hinX2 : ∀ w ∈ wsX20, w ∈ wsX7_noted := by decide +kernel
  have hinX7 : ∀ w ∈ wsX70, w ∈ wsX7_noted := by decide +kernel
  have f12 : Cond.fieldLink RX7 12 "FourPhases" "now" "LFourPhases$Line;" ∈ wsX7_noted := by decide +kernel
  have f141 : Cond.fieldLink RX7 141 "FourPhases$Line" "notes" "LFourPhases$Notes;" ∈ wsX7_noted := by decide +kernel
  refine j_iload_n cx (pc := 0) dX7_noted_0 1 rfl ?_
  refine j_if_lt cx (pc := 1) (tgt := 13) dX7_noted_1 (by decide) (fun c1_1 => ?_) (fun c1_1 => ?_)
  · skip
    refine j_bipush cx (pc := 13) (v := (-2)) dX7_noted_13 (by decide) ?_
    subst hQ; exact j_iret cx hr (by simp only [C7_noted, if_pos c1_1]) rfl hA dX7_noted_15
  · skip
    refine j_iload_n cx (pc := 4) dX7_noted_4 2 rfl ?_
    refine j_if_lt cx (pc := 5) (tgt := 13) dX7_noted_5 (by decide) (fun c5_2 => ?_) (fun c5_2 => ?_)
    · skip
      refine j_bipush cx (pc := 13) (v := (-2)) dX7_noted_13 (by decide) ?_
      subst hQ; exact j_iret cx hr (by simp only [C7_noted, if_neg c1_1, if_pos c5_2]) rfl hA dX7_noted_15
    · skip
      refine j_iload_n cx (pc := 8) dX7_noted_8 2 rfl ?_
      refine j_iconst cx (pc := 9) (v := (nI 2)) dX7_noted_9 (by decide) ?_
      refine j_icmp_le cx (pc := 10) (tgt := 16) dX7_noted_10 (by decide) (fun c10_3 => ?_) (fun c10_3 => ?_)
      · skip
        refine j_aload_n cx (pc := 16) dX7_noted_16 0 rfl ?_
        refine j_get cx (pc := 17) 85 0 rfl rfl (C := RX7) (T := TX7) (N := 6) rfl hinX7 0 (by decide) f12 rfl (v := .ref (ad 0 0)) rfl dX7_noted_17 ?_
        refine j_get cx (pc := 20) 1 0 rfl rfl (C := RX2) (T := TX2) (N := 12) rfl hinX2 10 (by decide) f141 rfl (v := .ref (ad 0 8)) rfl dX7_noted_20 ?_
        refine j_iload_n cx (pc := 23) dX7_noted_23 1 rfl ?_
        refine j_iload_n cx (pc := 24) dX7_noted_24 2 rfl ?_
        refine j_calli cx (pc := 25) 2 (c_X4_tell l D Y (ad 0 8) (ad 0 9) (ad 0 10) (ad 0 11) (ntU (F 0)) rank what hnt) gX7_noted_X4_tell rfl (by decide +kernel) rfl ⟨Nat.le_of_ble_eq_true rfl, Nat.le_of_ble_eq_true rfl⟩ [3] rfl (by decide) (Bs' := FB Y ad F) (putL_same rfl) rfl 3 0 rfl rfl rfl rfl (Nat.le_of_ble_eq_true rfl) dX7_noted_25 ⟨Nat.zero_le _, Nat.zero_le _⟩ ?_
        subst hQ; exact j_iret cx hr (by simp only [C7_noted, if_neg c1_1, if_neg c5_2, if_pos c10_3]) rfl hA dX7_noted_28
      · skip
        refine j_bipush cx (pc := 13) (v := (-2)) dX7_noted_13 (by decide) ?_
        subst hQ; exact j_iret cx hr (by simp only [C7_noted, if_neg c1_1, if_neg c5_2, if_neg c10_3]) rfl hA dX7_noted_15
def C7_total (F : Nat → Nat → Nat → Int32) (what : Int32) : Int32 :=
  if what = nI 0 then
    (F 0 0 0)
  else
    if what = nI 1 then
      (F 0 0 1)
    else
      if what = nI 2 then
        (C2_waitingWords (F 0) )
      else
        if what = nI 3 then
          (C2_fullStages (F 0) )
        else
          if what = nI 4 then
            (F 0 4 1)
          else
            if what = nI 5 then
              (F 0 0 3)
            else
              if what = nI 6 then
                (F 0 7 0)
              else
                if what = nI 7 then
                  (F 0 7 1)
                else
                  if what = nI 8 then
                    (F 0 0 4)
                  else
                    if what = nI 9 then
                      (F 0 0 2)
                    else
                      if what = nI 10 then
                        (F 0 1 0)
                      else
                        if what = nI 11 then
                          (F 0 1 1)
                        else
                          if what = nI 12 then
                            (F 0 1 2)
                          else
                            if what = nI 13 then
                              (F 8 0 0)
                            else
                              if what = nI 14 then
                                (F 7 0 0)
                              else
                                (-2)
set_option maxHeartbeats 4000000 in
set_option maxRecDepth 100000 in
theorem c_X7_total (l : Launch) (D : va_G) (Y : Nat → ClassId) (ad : Nat → Nat → Nat) (F : Nat → Nat → Nat → Int32) (what : Int32) (hst : vp_in (F 0 0 0) 7) : CtI l yX7_total wsX7_total 1 22 D (tyL Y) (FB Y ad F) [.ref (ad 8 2), .int what] (C7_total F what) (FB Y ad F) := by
  refine CtI.intro (own := RX7) (cc := cX7_total) (maxL := 2) rfl (by decide +kernel) rfl (Nat.le_of_ble_eq_true rfl) (fun p e s m args below meth c A Q hA hQ cx hr => ?_)
  have hinX0 : ∀ w ∈ wsX00, w ∈ wsX7_total := by decide +kernel
  have hinX1 : ∀ w ∈ wsX10, w ∈ wsX7_total := by decide +kernel
  have hinX2 : ∀ w ∈ wsX20, w ∈ wsX7_total := by decide +kernel
  have hinX4 : ∀ w ∈ wsX40, w ∈ wsX7_total := by decide +kernel
  have hinX6 : ∀ w ∈ wsX60, w ∈ wsX7_total := by decide +kernel
  have hinX7 : ∀ w ∈ wsX70, w ∈ wsX7_total := by decide +kernel
  have f12 : Cond.fieldLink RX7 12 "FourPhases" "now" "LFourPhases$Line;" ∈ wsX7_total := by decide +kernel
  have f29 : Cond.fieldLink RX7 29 "FourPhases" "history" "LFourPhases$History;" ∈ wsX7_total := by decide +kernel
  have f36 : Cond.fieldLink RX7 36 "FourPhases" "text" "LFourPhases$Text;" ∈ wsX7_total := by decide +kernel
  have f74 : Cond.fieldLink RX7 74 "FourPhases$Line" "time" "I" ∈ wsX7_total := by decide +kernel
  have f83 : Cond.fieldLink RX7 83 "FourPhases$Line" "settings" "[I" ∈ wsX7_total := by decide +kernel
  have f91 : Cond.fieldLink RX7 91 "FourPhases$Text" "length" "I" ∈ wsX7_total := by decide +kernel
  have f126 : Cond.fieldLink RX7 126 "FourPhases$Line" "stages" "I" ∈ wsX7_total := by decide +kernel
  have f141 : Cond.fieldLink RX7 141 "FourPhases$Line" "notes" "LFourPhases$Notes;" ∈ wsX7_total := by decide +kernel
  have f148 : Cond.fieldLink RX7 148 "FourPhases$Line" "underWay" "LFourPhases$Changes;" ∈ wsX7_total := by decide +kernel
  have f152 : Cond.fieldLink RX7 152 "FourPhases$Changes" "count" "I" ∈ wsX7_total := by decide +kernel
  have f157 : Cond.fieldLink RX7 157 "FourPhases$Line" "offeredWords" "I" ∈ wsX7_total := by decide +kernel
  have f160 : Cond.fieldLink RX7 160 "FourPhases$Notes" "count" "I" ∈ wsX7_total := by decide +kernel
  have f161 : Cond.fieldLink RX7 161 "FourPhases$Notes" "rightCount" "I" ∈ wsX7_total := by decide +kernel
  have f164 : Cond.fieldLink RX7 164 "FourPhases$Line" "arrivedChanges" "I" ∈ wsX7_total := by decide +kernel
  have f167 : Cond.fieldLink RX7 167 "FourPhases$Line" "latestSender" "I" ∈ wsX7_total := by decide +kernel
  have f170 : Cond.fieldLink RX7 170 "FourPhases$History" "count" "I" ∈ wsX7_total := by decide +kernel
  refine j_iload_n cx (pc := 0) dX7_total_0 1 rfl ?_
  by_cases s1_1 : what = nI 0
  · skip
    refine j_tableIn cx (pc := 1) dX7_total_1 (by rw [s1_1]; decide) (by rw [s1_1]; decide) (off := 75) (by rw [s1_1]; decide) (tgt := 76) (by decide) ?_
    refine j_aload_n cx (pc := 76) dX7_total_76 0 rfl ?_
    refine j_get cx (pc := 77) 85 0 rfl rfl (C := RX7) (T := TX7) (N := 6) rfl hinX7 0 (by decide) f12 rfl (v := .ref (ad 0 0)) rfl dX7_total_77 ?_
    refine j_get cx (pc := 80) 1 0 rfl rfl (C := RX2) (T := TX2) (N := 12) rfl hinX2 0 (by decide) f126 rfl (v := .int (F 0 0 0)) rfl dX7_total_80 ?_
    subst hQ; exact j_iret cx hr (by simp only [C7_total, if_pos s1_1]) rfl hA dX7_total_83
  by_cases s1_2 : what = nI 1
  · skip
    refine j_tableIn cx (pc := 1) dX7_total_1 (by rw [s1_2]; decide) (by rw [s1_2]; decide) (off := 83) (by rw [s1_2]; decide) (tgt := 84) (by decide) ?_
    refine j_aload_n cx (pc := 84) dX7_total_84 0 rfl ?_
    refine j_get cx (pc := 85) 85 0 rfl rfl (C := RX7) (T := TX7) (N := 6) rfl hinX7 0 (by decide) f12 rfl (v := .ref (ad 0 0)) rfl dX7_total_85 ?_
    refine j_get cx (pc := 88) 1 0 rfl rfl (C := RX2) (T := TX2) (N := 12) rfl hinX2 1 (by decide) f74 rfl (v := .int (F 0 0 1)) rfl dX7_total_88 ?_
    subst hQ; exact j_iret cx hr (by simp only [C7_total, if_neg s1_1, if_pos s1_2]) rfl hA dX7_total_91
  by_cases s1_3 : what = nI 2
  · skip
    refine j_tableIn cx (pc := 1) dX7_total_1 (by rw [s1_3]; decide) (by rw [s1_3]; decide) (off := 91) (by rw [s1_3]; decide) (tgt := 92) (by decide) ?_
    refine j_aload_n cx (pc := 92) dX7_total_92 0 rfl ?_
    refine j_get cx (pc := 93) 85 0 rfl rfl (C := RX7) (T := TX7) (N := 6) rfl hinX7 0 (by decide) f12 rfl (v := .ref (ad 0 0)) rfl dX7_total_93 ?_
    refine j_calli cx (pc := 96) 0 (c_X2_waitingWords l D Y (ad 0) (F 0)  ) gX7_total_X2_waitingWords rfl (by decide +kernel) rfl ⟨Nat.le_of_ble_eq_true rfl, Nat.le_of_ble_eq_true rfl⟩ (List.range' 1 12) (FB_0_s Y ad F) (by decide +kernel) (Bs' := FB Y ad F) (putL_same (FB_0_s Y ad F)) rfl 1 0 rfl rfl rfl rfl (Nat.le_of_ble_eq_true rfl) dX7_total_96 ⟨Nat.zero_le _, Nat.zero_le _⟩ ?_
    subst hQ; exact j_iret cx hr (by simp only [C7_total, if_neg s1_1, if_neg s1_2, if_pos s1_3]) rfl hA dX7_total_99
  by_cases s1_4 : what = nI 3
  · skip
    refine j_tableIn cx (pc := 1) dX7_total_1 (by rw [s1_4]; decide) (by rw [s1_4]; decide) (off := 99) (by rw [s1_4]; decide) (tgt := 100) (by decide) ?_
    refine j_aload_n cx (pc := 100) dX7_total_100 0 rfl ?_
    refine j_get cx (pc := 101) 85 0 rfl rfl (C := RX7) (T := TX7) (N := 6) rfl hinX7 0 (by decide) f12 rfl (v := .ref (ad 0 0)) rfl dX7_total_101 ?_
    refine j_calli cx (pc := 104) 0 (c_X2_fullStages l D Y (ad 0) (F 0)  hst) gX7_total_X2_fullStages rfl (by decide +kernel) rfl ⟨Nat.le_of_ble_eq_true rfl, Nat.le_of_ble_eq_true rfl⟩ (List.range' 1 12) (FB_0_s Y ad F) (by decide +kernel) (Bs' := FB Y ad F) (putL_same (FB_0_s Y ad F)) rfl 1 0 rfl rfl rfl rfl (Nat.le_of_ble_eq_true rfl) dX7_total_104 ⟨Nat.zero_le _, Nat.zero_le _⟩ ?_
    subst hQ; exact j_iret cx hr (by simp only [C7_total, if_neg s1_1, if_neg s1_2, if_neg s1_3, if_pos s1_4]) rfl hA dX7_total_107
  by_cases s1_5 : what = nI 4
  · skip
    refine j_tableIn cx (pc := 1) dX7_total_1 (by rw [s1_5]; decide) (by rw [s1_5]; decide) (off := 107) (by rw [s1_5]; decide) (tgt := 108) (by decide) ?_
    refine j_aload_n cx (pc := 108) dX7_total_108 0 rfl ?_
    refine j_get cx (pc := 109) 85 0 rfl rfl (C := RX7) (T := TX7) (N := 6) rfl hinX7 0 (by decide) f12 rfl (v := .ref (ad 0 0)) rfl dX7_total_109 ?_
    refine j_get cx (pc := 112) 1 0 rfl rfl (C := RX2) (T := TX2) (N := 12) rfl hinX2 9 (by decide) f148 rfl (v := .ref (ad 0 5)) rfl dX7_total_112 ?_
    refine j_get cx (pc := 115) 2 0 rfl rfl (C := RX0) (T := TX0) (N := 4) rfl hinX0 3 (by decide) f152 rfl (v := .int (F 0 4 1)) rfl dX7_total_115 ?_
    subst hQ; exact j_iret cx hr (by simp only [C7_total, if_neg s1_1, if_neg s1_2, if_neg s1_3, if_neg s1_4, if_pos s1_5]) rfl hA dX7_total_118
  by_cases s1_6 : what = nI 5
  · skip
    refine j_tableIn cx (pc := 1) dX7_total_1 (by rw [s1_6]; decide) (by rw [s1_6]; decide) (off := 118) (by rw [s1_6]; decide) (tgt := 119) (by decide) ?_
    refine j_aload_n cx (pc := 119) dX7_total_119 0 rfl ?_
    refine j_get cx (pc := 120) 85 0 rfl rfl (C := RX7) (T := TX7) (N := 6) rfl hinX7 0 (by decide) f12 rfl (v := .ref (ad 0 0)) rfl dX7_total_120 ?_
    refine j_get cx (pc := 123) 1 0 rfl rfl (C := RX2) (T := TX2) (N := 12) rfl hinX2 3 (by decide) f157 rfl (v := .int (F 0 0 3)) rfl dX7_total_123 ?_
    subst hQ; exact j_iret cx hr (by simp only [C7_total, if_neg s1_1, if_neg s1_2, if_neg s1_3, if_neg s1_4, if_neg s1_5, if_pos s1_6]) rfl hA dX7_total_126
  by_cases s1_7 : what = nI 6
  · skip
    refine j_tableIn cx (pc := 1) dX7_total_1 (by rw [s1_7]; decide) (by rw [s1_7]; decide) (off := 126) (by rw [s1_7]; decide) (tgt := 127) (by decide) ?_
    refine j_aload_n cx (pc := 127) dX7_total_127 0 rfl ?_
    refine j_get cx (pc := 128) 85 0 rfl rfl (C := RX7) (T := TX7) (N := 6) rfl hinX7 0 (by decide) f12 rfl (v := .ref (ad 0 0)) rfl dX7_total_128 ?_
    refine j_get cx (pc := 131) 1 0 rfl rfl (C := RX2) (T := TX2) (N := 12) rfl hinX2 10 (by decide) f141 rfl (v := .ref (ad 0 8)) rfl dX7_total_131 ?_
    refine j_get cx (pc := 134) 3 0 rfl rfl (C := RX4) (T := TX4) (N := 5) rfl hinX4 3 (by decide) f160 rfl (v := .int (F 0 7 0)) rfl dX7_total_134 ?_
    subst hQ; exact j_iret cx hr (by simp only [C7_total, if_neg s1_1, if_neg s1_2, if_neg s1_3, if_neg s1_4, if_neg s1_5, if_neg s1_6, if_pos s1_7]) rfl hA dX7_total_137
  by_cases s1_8 : what = nI 7
  · skip
    refine j_tableIn cx (pc := 1) dX7_total_1 (by rw [s1_8]; decide) (by rw [s1_8]; decide) (off := 137) (by rw [s1_8]; decide) (tgt := 138) (by decide) ?_
    refine j_aload_n cx (pc := 138) dX7_total_138 0 rfl ?_
    refine j_get cx (pc := 139) 85 0 rfl rfl (C := RX7) (T := TX7) (N := 6) rfl hinX7 0 (by decide) f12 rfl (v := .ref (ad 0 0)) rfl dX7_total_139 ?_
    refine j_get cx (pc := 142) 1 0 rfl rfl (C := RX2) (T := TX2) (N := 12) rfl hinX2 10 (by decide) f141 rfl (v := .ref (ad 0 8)) rfl dX7_total_142 ?_
    refine j_get cx (pc := 145) 3 0 rfl rfl (C := RX4) (T := TX4) (N := 5) rfl hinX4 4 (by decide) f161 rfl (v := .int (F 0 7 1)) rfl dX7_total_145 ?_
    subst hQ; exact j_iret cx hr (by simp only [C7_total, if_neg s1_1, if_neg s1_2, if_neg s1_3, if_neg s1_4, if_neg s1_5, if_neg s1_6, if_neg s1_7, if_pos s1_8]) rfl hA dX7_total_148
  by_cases s1_9 : what = nI 8
  · skip
    refine j_tableIn cx (pc := 1) dX7_total_1 (by rw [s1_9]; decide) (by rw [s1_9]; decide) (off := 148) (by rw [s1_9]; decide) (tgt := 149) (by decide) ?_
    refine j_aload_n cx (pc := 149) dX7_total_149 0 rfl ?_
    refine j_get cx (pc := 150) 85 0 rfl rfl (C := RX7) (T := TX7) (N := 6) rfl hinX7 0 (by decide) f12 rfl (v := .ref (ad 0 0)) rfl dX7_total_150 ?_
    refine j_get cx (pc := 153) 1 0 rfl rfl (C := RX2) (T := TX2) (N := 12) rfl hinX2 4 (by decide) f164 rfl (v := .int (F 0 0 4)) rfl dX7_total_153 ?_
    subst hQ; exact j_iret cx hr (by simp only [C7_total, if_neg s1_1, if_neg s1_2, if_neg s1_3, if_neg s1_4, if_neg s1_5, if_neg s1_6, if_neg s1_7, if_neg s1_8, if_pos s1_9]) rfl hA dX7_total_156
  by_cases s1_10 : what = nI 9
  · skip
    refine j_tableIn cx (pc := 1) dX7_total_1 (by rw [s1_10]; decide) (by rw [s1_10]; decide) (off := 156) (by rw [s1_10]; decide) (tgt := 157) (by decide) ?_
    refine j_aload_n cx (pc := 157) dX7_total_157 0 rfl ?_
    refine j_get cx (pc := 158) 85 0 rfl rfl (C := RX7) (T := TX7) (N := 6) rfl hinX7 0 (by decide) f12 rfl (v := .ref (ad 0 0)) rfl dX7_total_158 ?_
    refine j_get cx (pc := 161) 1 0 rfl rfl (C := RX2) (T := TX2) (N := 12) rfl hinX2 2 (by decide) f167 rfl (v := .int (F 0 0 2)) rfl dX7_total_161 ?_
    subst hQ; exact j_iret cx hr (by simp only [C7_total, if_neg s1_1, if_neg s1_2, if_neg s1_3, if_neg s1_4, if_neg s1_5, if_neg s1_6, if_neg s1_7, if_neg s1_8, if_neg s1_9, if_pos s1_10]) rfl hA dX7_total_164
  by_cases s1_11 : what = nI 10
  · skip
    refine j_tableIn cx (pc := 1) dX7_total_1 (by rw [s1_11]; decide) (by rw [s1_11]; decide) (off := 164) (by rw [s1_11]; decide) (tgt := 165) (by decide) ?_
    refine j_aload_n cx (pc := 165) dX7_total_165 0 rfl ?_
    refine j_get cx (pc := 166) 85 0 rfl rfl (C := RX7) (T := TX7) (N := 6) rfl hinX7 0 (by decide) f12 rfl (v := .ref (ad 0 0)) rfl dX7_total_166 ?_
    refine j_get cx (pc := 169) 1 0 rfl rfl (C := RX2) (T := TX2) (N := 12) rfl hinX2 5 (by decide) f83 rfl (v := .ref (ad 0 1)) rfl dX7_total_169 ?_
    refine j_iconst cx (pc := 172) (v := (nI 0)) dX7_total_172 (by decide) ?_
    refine j_iald cx (pc := 173) 1 1 0 rfl rfl rfl (by decide) (by decide) dX7_total_173 ?_
    subst hQ; exact j_iret cx hr (by simp only [C7_total, if_neg s1_1, if_neg s1_2, if_neg s1_3, if_neg s1_4, if_neg s1_5, if_neg s1_6, if_neg s1_7, if_neg s1_8, if_neg s1_9, if_neg s1_10, if_pos s1_11]) rfl hA dX7_total_174
  by_cases s1_12 : what = nI 11
  · skip
    refine j_tableIn cx (pc := 1) dX7_total_1 (by rw [s1_12]; decide) (by rw [s1_12]; decide) (off := 174) (by rw [s1_12]; decide) (tgt := 175) (by decide) ?_
    refine j_aload_n cx (pc := 175) dX7_total_175 0 rfl ?_
    refine j_get cx (pc := 176) 85 0 rfl rfl (C := RX7) (T := TX7) (N := 6) rfl hinX7 0 (by decide) f12 rfl (v := .ref (ad 0 0)) rfl dX7_total_176 ?_
    refine j_get cx (pc := 179) 1 0 rfl rfl (C := RX2) (T := TX2) (N := 12) rfl hinX2 5 (by decide) f83 rfl (v := .ref (ad 0 1)) rfl dX7_total_179 ?_
    refine j_iconst cx (pc := 182) (v := (nI 1)) dX7_total_182 (by decide) ?_
    refine j_iald cx (pc := 183) 1 1 0 rfl rfl rfl (by decide) (by decide) dX7_total_183 ?_
    subst hQ; exact j_iret cx hr (by simp only [C7_total, if_neg s1_1, if_neg s1_2, if_neg s1_3, if_neg s1_4, if_neg s1_5, if_neg s1_6, if_neg s1_7, if_neg s1_8, if_neg s1_9, if_neg s1_10, if_neg s1_11, if_pos s1_12]) rfl hA dX7_total_184
  by_cases s1_13 : what = nI 12
  · skip
    refine j_tableIn cx (pc := 1) dX7_total_1 (by rw [s1_13]; decide) (by rw [s1_13]; decide) (off := 184) (by rw [s1_13]; decide) (tgt := 185) (by decide) ?_
    refine j_aload_n cx (pc := 185) dX7_total_185 0 rfl ?_
    refine j_get cx (pc := 186) 85 0 rfl rfl (C := RX7) (T := TX7) (N := 6) rfl hinX7 0 (by decide) f12 rfl (v := .ref (ad 0 0)) rfl dX7_total_186 ?_
    refine j_get cx (pc := 189) 1 0 rfl rfl (C := RX2) (T := TX2) (N := 12) rfl hinX2 5 (by decide) f83 rfl (v := .ref (ad 0 1)) rfl dX7_total_189 ?_
    refine j_iconst cx (pc := 192) (v := (nI 2)) dX7_total_192 (by decide) ?_
    refine j_iald cx (pc := 193) 1 1 0 rfl rfl rfl (by decide) (by decide) dX7_total_193 ?_
    subst hQ; exact j_iret cx hr (by simp only [C7_total, if_neg s1_1, if_neg s1_2, if_neg s1_3, if_neg s1_4, if_neg s1_5, if_neg s1_6, if_neg s1_7, if_neg s1_8, if_neg s1_9, if_neg s1_10, if_neg s1_11, if_neg s1_12, if_pos s1_13]) rfl hA dX7_total_194
  by_cases s1_14 : what = nI 13
  · skip
    refine j_tableIn cx (pc := 1) dX7_total_1 (by rw [s1_14]; decide) (by rw [s1_14]; decide) (off := 194) (by rw [s1_14]; decide) (tgt := 195) (by decide) ?_
    refine j_aload_n cx (pc := 195) dX7_total_195 0 rfl ?_
    refine j_get cx (pc := 196) 85 0 rfl rfl (C := RX7) (T := TX7) (N := 6) rfl hinX7 4 (by decide) f29 rfl (v := .ref (ad 8 0)) rfl dX7_total_196 ?_
    refine j_get cx (pc := 199) 0 0 rfl rfl (C := RX1) (T := TX1) (N := 2) rfl hinX1 1 (by decide) f170 rfl (v := .int (F 8 0 0)) rfl dX7_total_199 ?_
    subst hQ; exact j_iret cx hr (by simp only [C7_total, if_neg s1_1, if_neg s1_2, if_neg s1_3, if_neg s1_4, if_neg s1_5, if_neg s1_6, if_neg s1_7, if_neg s1_8, if_neg s1_9, if_neg s1_10, if_neg s1_11, if_neg s1_12, if_neg s1_13, if_pos s1_14]) rfl hA dX7_total_202
  by_cases s1_15 : what = nI 14
  · skip
    refine j_tableIn cx (pc := 1) dX7_total_1 (by rw [s1_15]; decide) (by rw [s1_15]; decide) (off := 202) (by rw [s1_15]; decide) (tgt := 203) (by decide) ?_
    refine j_aload_n cx (pc := 203) dX7_total_203 0 rfl ?_
    refine j_get cx (pc := 204) 85 0 rfl rfl (C := RX7) (T := TX7) (N := 6) rfl hinX7 5 (by decide) f36 rfl (v := .ref (ad 7 0)) rfl dX7_total_204 ?_
    refine j_get cx (pc := 207) 86 0 rfl rfl (C := RX6) (T := TX6) (N := 7) rfl hinX6 1 (by decide) f91 rfl (v := .int (F 7 0 0)) rfl dX7_total_207 ?_
    subst hQ; exact j_iret cx hr (by simp only [C7_total, if_neg s1_1, if_neg s1_2, if_neg s1_3, if_neg s1_4, if_neg s1_5, if_neg s1_6, if_neg s1_7, if_neg s1_8, if_neg s1_9, if_neg s1_10, if_neg s1_11, if_neg s1_12, if_neg s1_13, if_neg s1_14, if_pos s1_15]) rfl hA dX7_total_210
  refine j_tableOut cx (pc := 1) dX7_total_1 (sw_out 0 14 (by decide) (by intro j h1 h2; rcases (show j = 0 ∨ j = 1 ∨ j = 2 ∨ j = 3 ∨ j = 4 ∨ j = 5 ∨ j = 6 ∨ j = 7 ∨ j = 8 ∨ j = 9 ∨ j = 10 ∨ j = 11 ∨ j = 12 ∨ j = 13 ∨ j = 14 from by omega) with rfl | rfl | rfl | rfl | rfl | rfl | rfl | rfl | rfl | rfl | rfl | rfl | rfl | rfl | rfl <;> assumption)) (tgt := 211) (by decide) ?_
  refine j_bipush cx (pc := 211) (v := (-2)) dX7_total_211 (by decide) ?_
  subst hQ; exact j_iret cx hr (by simp only [C7_total, if_neg s1_1, if_neg s1_2, if_neg s1_3, if_neg s1_4, if_neg s1_5, if_neg s1_6, if_neg s1_7, if_neg s1_8, if_neg s1_9, if_neg s1_10, if_neg s1_11, if_neg s1_12, if_neg s1_13, if_neg s1_14, if_neg s1_15]) rfl hA dX7_total_213
def C7_next (F : Nat → Nat → Nat → Int32)  : Int32 :=
  if (C2_isQuiet (F 0) ) = 0 then
    (C0_firstTime (chU (F 0)) )
  else
    (-5)
set_option maxHeartbeats 4000000 in
set_option maxRecDepth 100000 in
theorem c_X7_next (l : Launch) (D : va_G) (Y : Nat → ClassId) (ad : Nat → Nat → Nat) (F : Nat → Nat → Nat → Int32)  (hc : chOK (chU (F 0))) : CtI l yX7_next wsX7_next 1 20 D (tyL Y) (FB Y ad F) [.ref (ad 8 2)] (C7_next F ) (FB Y ad F) := by
  refine CtI.intro (own := RX7) (cc := cX7_next) (maxL := 1) rfl (by decide +kernel) rfl (Nat.le_of_ble_eq_true rfl) (fun p e s m args below meth c A Q hA hQ cx hr => ?_)
  have hinX2 : ∀ w ∈ wsX20, w ∈ wsX7_next := by decide +kernel
  have hinX7 : ∀ w ∈ wsX70, w ∈ wsX7_next := by decide +kernel
  have f12 : Cond.fieldLink RX7 12 "FourPhases" "now" "LFourPhases$Line;" ∈ wsX7_next := by decide +kernel
  have f148 : Cond.fieldLink RX7 148 "FourPhases$Line" "underWay" "LFourPhases$Changes;" ∈ wsX7_next := by decide +kernel
  refine j_aload_n cx (pc := 0) dX7_next_0 0 rfl ?_
  refine j_get cx (pc := 1) 85 0 rfl rfl (C := RX7) (T := TX7) (N := 6) rfl hinX7 0 (by decide) f12 rfl (v := .ref (ad 0 0)) rfl dX7_next_1 ?_
  refine j_calli cx (pc := 4) 0 (c_X2_isQuiet l D Y (ad 0) (F 0)  ) gX7_next_X2_isQuiet rfl (by decide +kernel) rfl ⟨Nat.le_of_ble_eq_true rfl, Nat.le_of_ble_eq_true rfl⟩ (List.range' 1 12) (FB_0_s Y ad F) (by decide +kernel) (Bs' := FB Y ad F) (putL_same (FB_0_s Y ad F)) rfl 1 0 rfl rfl rfl rfl (Nat.le_of_ble_eq_true rfl) dX7_next_4 ⟨Nat.zero_le _, Nat.zero_le _⟩ ?_
  refine j_if_eq cx (pc := 7) (tgt := 15) dX7_next_7 (by decide) (fun c7_1 => ?_) (fun c7_1 => ?_)
  · skip
    refine j_aload_n cx (pc := 15) dX7_next_15 0 rfl ?_
    refine j_get cx (pc := 16) 85 0 rfl rfl (C := RX7) (T := TX7) (N := 6) rfl hinX7 0 (by decide) f12 rfl (v := .ref (ad 0 0)) rfl dX7_next_16 ?_
    refine j_get cx (pc := 19) 1 0 rfl rfl (C := RX2) (T := TX2) (N := 12) rfl hinX2 9 (by decide) f148 rfl (v := .ref (ad 0 5)) rfl dX7_next_19 ?_
    refine j_calli cx (pc := 22) 0 (c_X0_firstTime l D Y (ad 0 5) (ad 0 6) (ad 0 7) (chU (F 0))  hc) gX7_next_X0_firstTime rfl (by decide +kernel) rfl ⟨Nat.le_of_ble_eq_true rfl, Nat.le_of_ble_eq_true rfl⟩ [2] rfl (by decide) (Bs' := FB Y ad F) (putL_same rfl) rfl 2 0 rfl rfl rfl rfl (Nat.le_of_ble_eq_true rfl) dX7_next_22 ⟨Nat.zero_le _, Nat.zero_le _⟩ ?_
    subst hQ; exact j_iret cx hr (by simp only [C7_next, if_pos c7_1]) rfl hA dX7_next_25
  · skip
    refine j_bipush cx (pc := 10) (v := (-5)) dX7_next_10 (by decide) ?_
    refine j_goto cx (pc := 12) (tgt := 25) dX7_next_12 (by decide) ?_
    subst hQ; exact j_iret cx hr (by simp only [C7_next, if_neg c7_1]) rfl hA dX7_next_25
def C7_quietIn (F : Nat → Nat → Nat → Int32)  : Int32 × (Nat → Nat → Nat → Int32) :=
  let V1 := setF F 1 (C2_copyFrom (F 1) (F 0))
  let V2 := setF V1 1 (C2_letArriveUpTo (V1 1) (nI 2000000000))
  (((V2 1 0 1) - (V2 0 0 1)), V2)
def C7_settleTrialWithLead (F : Nat → Nat → Nat → Int32) (lead : Int32) : Nat → Nat → Nat → Int32 :=
  let V1 := setF F 1 (C2_copyFrom (F 1) (F 0))
  let V2 := setF V1 1 (up1 (V1 1) 1 0 lead)
  let V3 := setF V2 1 (C2_letArriveUpTo (V2 1) (nI 2000000000))
  V3
def C7_wrongInTrial (F : Nat → Nat → Nat → Int32)  : Int32 :=
  ((C4_wrongWords (ntU (F 1)) ) - (C4_wrongWords (ntU (F 0)) ))
def C7_ifLead (F : Nat → Nat → Nat → Int32) (lead : Int32) (what : Int32) : Int32 × (Nat → Nat → Nat → Int32) :=
  if lead < 0 then
    ((-2), F)
  else
    if (nI 20) < lead then
      ((-2), F)
    else
      if what < 0 then
        ((-2), F)
      else
        if what ≤ (nI 2) then
          let V1 := (C7_settleTrialWithLead F lead)
          if what = nI 0 then
            (((V1 1 0 1) - (V1 0 0 1)), V1)
          else
            if what = nI 1 then
              (((V1 1 7 0) - (V1 0 7 0)), V1)
            else
              ((C7_wrongInTrial V1 ), V1)
        else
          ((-2), F)
