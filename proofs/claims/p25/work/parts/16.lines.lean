def wr3_clear (V : Nat → Nat → Int32) (k : Nat) : Nat → Nat → Int32 := lkS V k (C3_clear (lkU V k))
def wr4_clear (V : Nat → Nat → Int32) : Nat → Nat → Int32 := ntS V (C4_clear (ntU V))
def wr3_copyFrom (V : Nat → Nat → Int32) (k : Nat) (W : Nat → Nat → Int32) : Nat → Nat → Int32 := lkS V k (C3_copyFrom (lkU V k) (lkU W k))
def wr5_copyFrom (V : Nat → Nat → Int32) (k : Nat) (W : Nat → Nat → Int32) : Nat → Nat → Int32 := rwS V k (C5_copyFrom (rwU V k) (rwU W k))
def wr0_copyFrom (V W : Nat → Nat → Int32) : Nat → Nat → Int32 := chS V (C0_copyFrom (chU V) (chU W))
def wr4_copyFrom (V W : Nat → Nat → Int32) : Nat → Nat → Int32 := ntS V (C4_copyFrom (ntU V) (ntU W))
def cpC (V W : Nat → Nat → Int32) (c n : Nat) : Nat → Nat → Int32 := setC V c (va_cpy (W c) (V c) 0 0 n)
def C2_passTicks (V : Nat → Nat → Int32) (ticks : Int32) : Int32 × (Nat → Nat → Int32) :=
  if ticks < (nI 1) then
    ((-2), V)
  else
    if ticks ≤ (nI 1000) then
      if ((V 0 1) + ticks) ≤ (nI 1000000) then
        let V1 := (C2_letArriveUpTo V ((V 0 1) + ticks))
        let V2 := up1 V1 0 1 ((V 0 1) + ticks)
        (((V2 7 0) - (V 7 0)), V2)
      else
        ((-3), V)
    else
      ((-2), V)
set_option maxHeartbeats 4000000 in
set_option maxRecDepth 100000 in
theorem c_X2_passTicks (l : Launch) (D : va_G) (Y : Nat → ClassId) (ad : Nat → Nat) (V : Nat → Nat → Int32) (ticks : Int32) (hok : ¬ ticks < nI 1 → ticks ≤ nI 1000 → V 0 1 + ticks ≤ nI 1000000 → lauOK (V 0 1 + ticks) 1000000 V) : CtI l yX2_passTicks wsX2_passTicks 5 121 D (tyL Y) (LB Y ad V) [.ref (ad 0), .int ticks] (C2_passTicks V ticks).1 (LB Y ad (C2_passTicks V ticks).2) := by
  refine CtI.intro (own := RX2) (cc := cX2_passTicks) (maxL := 4) rfl (by decide +kernel) rfl (Nat.le_of_ble_eq_true rfl) (fun p e s m args below meth c A Q hA hQ cx hr => ?_)
  have hinX2 : ∀ w ∈ wsX20, w ∈ wsX2_passTicks := by decide +kernel
  have hinX4 : ∀ w ∈ wsX40, w ∈ wsX2_passTicks := by decide +kernel
  have f40 : Cond.fieldLink RX2 40 "FourPhases$Line" "notes" "LFourPhases$Notes;" ∈ wsX2_passTicks := by decide +kernel
  have f57 : Cond.fieldLink RX2 57 "FourPhases$Line" "time" "I" ∈ wsX2_passTicks := by decide +kernel
  have f119 : Cond.fieldLink RX2 119 "FourPhases$Notes" "count" "I" ∈ wsX2_passTicks := by decide +kernel
  refine j_iload_n cx (pc := 0) dX2_passTicks_0 1 rfl ?_
  refine j_iconst cx (pc := 1) (v := (nI 1)) dX2_passTicks_1 (by decide) ?_
  refine j_icmp_lt cx (pc := 2) (tgt := 12) dX2_passTicks_2 (by decide) (fun c2_1 => ?_) (fun c2_1 => ?_)
  · skip
    refine j_bipush cx (pc := 12) (v := (-2)) dX2_passTicks_12 (by decide) ?_
    subst hQ; exact j_iret cx hr (by simp only [C2_passTicks, if_pos c2_1]) (by simp only [C2_passTicks, if_pos c2_1]) hA dX2_passTicks_14
  · skip
    refine j_iload_n cx (pc := 5) dX2_passTicks_5 1 rfl ?_
    refine j_sipush cx (pc := 6) (v := (nI 1000)) dX2_passTicks_6 (by decide) ?_
    refine j_icmp_le cx (pc := 9) (tgt := 15) dX2_passTicks_9 (by decide) (fun c9_2 => ?_) (fun c9_2 => ?_)
    · skip
      refine j_aload_n cx (pc := 15) dX2_passTicks_15 0 rfl ?_
      refine j_get cx (pc := 16) 0 0 rfl rfl (C := RX2) (T := TX2) (N := 12) rfl hinX2 1 (by decide) f57 rfl (v := .int (V 0 1)) rfl dX2_passTicks_16 ?_
      refine j_iload_n cx (pc := 19) dX2_passTicks_19 1 rfl ?_
      refine j_iadd cx (pc := 20) dX2_passTicks_20 ?_
      refine j_istore_n cx (pc := 21) (lv' := [(2, .int ((V 0 1) + ticks)), (0, .ref (ad 0)), (1, .int ticks)]) dX2_passTicks_21 (by decide) rfl ?_
      refine j_iload_n cx (pc := 22) dX2_passTicks_22 0 rfl ?_
      refine j_ldc cx (pc := 23) (v := (nI 1000000)) (show Cond.constant RX2 118 (1000000) ∈ wsX2_passTicks from by decide +kernel) dX2_passTicks_23 ?_
      refine j_icmp_le cx (pc := 25) (tgt := 31) dX2_passTicks_25 (by decide) (fun c25_3 => ?_) (fun c25_3 => ?_)
      · skip
        refine j_aload_n cx (pc := 31) dX2_passTicks_31 1 rfl ?_
        refine j_get cx (pc := 32) 0 0 rfl rfl (C := RX2) (T := TX2) (N := 12) rfl hinX2 10 (by decide) f40 rfl (v := .ref (ad 8)) rfl dX2_passTicks_32 ?_
        refine j_get cx (pc := 35) 2 0 rfl rfl (C := RX4) (T := TX4) (N := 5) rfl hinX4 3 (by decide) f119 rfl (v := .int (V 7 0)) rfl dX2_passTicks_35 ?_
        refine j_istore_n cx (pc := 38) (lv' := [(3, .int (V 7 0)), (2, .int ((V 0 1) + ticks)), (0, .ref (ad 0)), (1, .int ticks)]) dX2_passTicks_38 (by decide) rfl ?_
        refine j_aload_n cx (pc := 39) dX2_passTicks_39 2 rfl ?_
        refine j_iload_n cx (pc := 40) dX2_passTicks_40 1 rfl ?_
        obtain ⟨V1, hV1⟩ : ∃ z, z = (C2_letArriveUpTo V ((V 0 1) + ticks)) := ⟨_, rfl⟩
        refine j_callv cx (pc := 41) 1 (c_X2_letArriveUpTo l D Y ad V ((V 0 1) + ticks) (hok c2_1 c9_2 c25_3)) gX2_passTicks_X2_letArriveUpTo rfl (by decide +kernel) rfl ⟨Nat.le_of_ble_eq_true rfl, Nat.le_of_ble_eq_true rfl⟩ [0, 1, 2, 3, 4, 5, 6, 7, 8, 9, 10, 11] rfl (by decide) (Bs' := LB Y ad V1) (by rw [hV1]; exact P1_ln V (C2_letArriveUpTo V ((V 0 1) + ticks))) A1_ln 0 0 rfl rfl rfl rfl (Nat.le_of_ble_eq_true rfl) dX2_passTicks_41 ⟨Nat.zero_le _, Nat.zero_le _⟩ ?_
        refine j_aload_n cx (pc := 44) dX2_passTicks_44 2 rfl ?_
        refine j_iload_n cx (pc := 45) dX2_passTicks_45 1 rfl ?_
        obtain ⟨V2, hV2⟩ : ∃ z, z = up1 V1 0 1 ((V 0 1) + ticks) := ⟨_, rfl⟩
        refine j_put cx (pc := 46) 0 0 rfl rfl (C := RX2) (T := TX2) (N := 12) rfl hinX2 tyX2 tyX2_ok nmX2 1 (by decide) f57 rfl rfl rfl rfl (Nat.le_of_ble_eq_true rfl) (Bs' := LB Y ad V2) (by rw [hV2]; rfl) dX2_passTicks_46 ?_
        refine j_aload_n cx (pc := 49) dX2_passTicks_49 2 rfl ?_
        refine j_get cx (pc := 50) 0 0 rfl rfl (C := RX2) (T := TX2) (N := 12) rfl hinX2 10 (by decide) f40 rfl (v := .ref (ad 8)) rfl dX2_passTicks_50 ?_
        refine j_get cx (pc := 53) 2 0 rfl rfl (C := RX4) (T := TX4) (N := 5) rfl hinX4 3 (by decide) f119 rfl (v := .int (V2 7 0)) rfl dX2_passTicks_53 ?_
        refine j_iload_n cx (pc := 56) dX2_passTicks_56 0 rfl ?_
        refine j_isub cx (pc := 57) dX2_passTicks_57 ?_
        subst hQ; exact j_iret cx hr (by subst hV2; subst hV1; simp only [C2_passTicks, if_neg c2_1, if_pos c9_2, if_pos c25_3]) (by subst hV2; subst hV1; simp only [C2_passTicks, if_neg c2_1, if_pos c9_2, if_pos c25_3]) hA dX2_passTicks_58
      · skip
        refine j_bipush cx (pc := 28) (v := (-3)) dX2_passTicks_28 (by decide) ?_
        subst hQ; exact j_iret cx hr (by simp only [C2_passTicks, if_neg c2_1, if_pos c9_2, if_neg c25_3]) (by simp only [C2_passTicks, if_neg c2_1, if_pos c9_2, if_neg c25_3]) hA dX2_passTicks_30
    · skip
      refine j_bipush cx (pc := 12) (v := (-2)) dX2_passTicks_12 (by decide) ?_
      subst hQ; exact j_iret cx hr (by simp only [C2_passTicks, if_neg c2_1, if_neg c9_2]) (by simp only [C2_passTicks, if_neg c2_1, if_neg c9_2]) hA dX2_passTicks_14
def C2_clearTo (V : Nat → Nat → Int32) (stages : Int32) : Nat → Nat → Int32 :=
  let V1 := up1 V 0 0 stages
  let V2 := up1 V1 0 1 (nI 0)
  let V3 := up1 V2 0 2 (-5)
  let V4 := up1 V3 0 3 (nI 0)
  let V5 := up1 V4 0 4 (nI 0)
  let V6 := wr3_clear V5 0
  let V7 := wr3_clear V6 1
  let V8 := wr3_clear V7 2
  let V9 := wr3_clear V8 3
  let V10 := wr3_clear V9 4
  let V11 := wr3_clear V10 5
  let V12 := wr3_clear V11 6
  let V13 := up1 V12 2 0 (-1)
  let V14 := up1 V13 2 1 (-1)
  let V15 := up1 V14 2 2 (-1)
  let V16 := up1 V15 2 3 (-1)
  let V17 := up1 V16 2 4 (-1)
  let V18 := up1 V17 2 5 (-1)
  let V19 := up1 V18 27 0 (nI 0)
  let V20 := up1 V19 28 0 (nI 0)
  let V21 := up1 V20 4 1 (nI 0)
  let V22 := wr4_clear V21
  V22
set_option maxHeartbeats 4000000 in
set_option maxRecDepth 100000 in
theorem c_X2_clearTo (l : Launch) (D : va_G) (Y : Nat → ClassId) (ad : Nat → Nat) (V : Nat → Nat → Int32) (stages : Int32)  : CtV l yX2_clearTo wsX2_clearTo 1 21 D (tyL Y) (LB Y ad V) [.ref (ad 0), .int stages] (LB Y ad (C2_clearTo V stages)) := by
  refine CtV.intro (own := RX2) (cc := cX2_clearTo) (maxL := 3) rfl (by decide +kernel) rfl (Nat.le_of_ble_eq_true rfl) (fun p e s m args below meth c A Q hA hQ cx hr => ?_)
  have hinX0 : ∀ w ∈ wsX00, w ∈ wsX2_clearTo := by decide +kernel
  have hinX2 : ∀ w ∈ wsX20, w ∈ wsX2_clearTo := by decide +kernel
  have hinX5 : ∀ w ∈ wsX50, w ∈ wsX2_clearTo := by decide +kernel
  have f17 : Cond.fieldLink RX2 17 "FourPhases$Line" "links" "[LFourPhases$Link;" ∈ wsX2_clearTo := by decide +kernel
  have f21 : Cond.fieldLink RX2 21 "FourPhases$Line" "held" "[I" ∈ wsX2_clearTo := by decide +kernel
  have f26 : Cond.fieldLink RX2 26 "FourPhases$Line" "rows" "[LFourPhases$Row;" ∈ wsX2_clearTo := by decide +kernel
  have f33 : Cond.fieldLink RX2 33 "FourPhases$Line" "underWay" "LFourPhases$Changes;" ∈ wsX2_clearTo := by decide +kernel
  have f40 : Cond.fieldLink RX2 40 "FourPhases$Line" "notes" "LFourPhases$Notes;" ∈ wsX2_clearTo := by decide +kernel
  have f53 : Cond.fieldLink RX2 53 "FourPhases$Line" "stages" "I" ∈ wsX2_clearTo := by decide +kernel
  have f57 : Cond.fieldLink RX2 57 "FourPhases$Line" "time" "I" ∈ wsX2_clearTo := by decide +kernel
  have f60 : Cond.fieldLink RX2 60 "FourPhases$Line" "latestSender" "I" ∈ wsX2_clearTo := by decide +kernel
  have f63 : Cond.fieldLink RX2 63 "FourPhases$Line" "offeredWords" "I" ∈ wsX2_clearTo := by decide +kernel
  have f66 : Cond.fieldLink RX2 66 "FourPhases$Line" "arrivedChanges" "I" ∈ wsX2_clearTo := by decide +kernel
  have f72 : Cond.fieldLink RX2 72 "FourPhases$Row" "count" "I" ∈ wsX2_clearTo := by decide +kernel
  have f75 : Cond.fieldLink RX2 75 "FourPhases$Changes" "count" "I" ∈ wsX2_clearTo := by decide +kernel
  refine j_aload_n cx (pc := 0) dX2_clearTo_0 0 rfl ?_
  refine j_iload_n cx (pc := 1) dX2_clearTo_1 1 rfl ?_
  obtain ⟨V1, hV1⟩ : ∃ z, z = up1 V 0 0 stages := ⟨_, rfl⟩
  refine j_put cx (pc := 2) 0 0 rfl rfl (C := RX2) (T := TX2) (N := 12) rfl hinX2 tyX2 tyX2_ok nmX2 0 (by decide) f53 rfl rfl rfl rfl (Nat.le_of_ble_eq_true rfl) (Bs' := LB Y ad V1) (by rw [hV1]; rfl) dX2_clearTo_2 ?_
  refine j_aload_n cx (pc := 5) dX2_clearTo_5 0 rfl ?_
  refine j_iconst cx (pc := 6) (v := (nI 0)) dX2_clearTo_6 (by decide) ?_
  obtain ⟨V2, hV2⟩ : ∃ z, z = up1 V1 0 1 (nI 0) := ⟨_, rfl⟩
  refine j_put cx (pc := 7) 0 0 rfl rfl (C := RX2) (T := TX2) (N := 12) rfl hinX2 tyX2 tyX2_ok nmX2 1 (by decide) f57 rfl rfl rfl rfl (Nat.le_of_ble_eq_true rfl) (Bs' := LB Y ad V2) (by rw [hV2]; rfl) dX2_clearTo_7 ?_
  refine j_aload_n cx (pc := 10) dX2_clearTo_10 0 rfl ?_
  refine j_bipush cx (pc := 11) (v := (-5)) dX2_clearTo_11 (by decide) ?_
  obtain ⟨V3, hV3⟩ : ∃ z, z = up1 V2 0 2 (-5) := ⟨_, rfl⟩
  refine j_put cx (pc := 13) 0 0 rfl rfl (C := RX2) (T := TX2) (N := 12) rfl hinX2 tyX2 tyX2_ok nmX2 2 (by decide) f60 rfl rfl rfl rfl (Nat.le_of_ble_eq_true rfl) (Bs' := LB Y ad V3) (by rw [hV3]; rfl) dX2_clearTo_13 ?_
  refine j_aload_n cx (pc := 16) dX2_clearTo_16 0 rfl ?_
  refine j_iconst cx (pc := 17) (v := (nI 0)) dX2_clearTo_17 (by decide) ?_
  obtain ⟨V4, hV4⟩ : ∃ z, z = up1 V3 0 3 (nI 0) := ⟨_, rfl⟩
  refine j_put cx (pc := 18) 0 0 rfl rfl (C := RX2) (T := TX2) (N := 12) rfl hinX2 tyX2 tyX2_ok nmX2 3 (by decide) f63 rfl rfl rfl rfl (Nat.le_of_ble_eq_true rfl) (Bs' := LB Y ad V4) (by rw [hV4]; rfl) dX2_clearTo_18 ?_
  refine j_aload_n cx (pc := 21) dX2_clearTo_21 0 rfl ?_
  refine j_iconst cx (pc := 22) (v := (nI 0)) dX2_clearTo_22 (by decide) ?_
  obtain ⟨V5, hV5⟩ : ∃ z, z = up1 V4 0 4 (nI 0) := ⟨_, rfl⟩
  refine j_put cx (pc := 23) 0 0 rfl rfl (C := RX2) (T := TX2) (N := 12) rfl hinX2 tyX2 tyX2_ok nmX2 4 (by decide) f66 rfl rfl rfl rfl (Nat.le_of_ble_eq_true rfl) (Bs' := LB Y ad V5) (by rw [hV5]; rfl) dX2_clearTo_23 ?_
  refine j_iconst cx (pc := 26) (v := (nI 0)) dX2_clearTo_26 (by decide) ?_
  refine j_istore_n cx (pc := 27) (lv' := [(2, .int (nI 0)), (0, .ref (ad 0)), (1, .int stages)]) dX2_clearTo_27 (by decide) rfl ?_
  refine j_iload_n cx (pc := 28) dX2_clearTo_28 0 rfl ?_
  refine j_bipush cx (pc := 29) (v := (nI 7)) dX2_clearTo_29 (by decide) ?_
  refine j_icmpN_ge cx (pc := 31) (by decide) (by decide) (tgt := 49) dX2_clearTo_31 (by decide) (fun c31_1 => by exfalso; revert c31_1; decide) (fun c31_1 => ?_)
  refine j_aload_n cx (pc := 34) dX2_clearTo_34 1 rfl ?_
  refine j_get cx (pc := 35) 0 0 rfl rfl (C := RX2) (T := TX2) (N := 12) rfl hinX2 6 (by decide) f17 rfl (v := .ref (ad 2)) rfl dX2_clearTo_35 ?_
  refine j_iload_n cx (pc := 38) dX2_clearTo_38 0 rfl ?_
  refine j_aald cx (pc := 39) 0 2 3 rfl rfl rfl (by decide) (by decide) (a' := (ad 13)) rfl dX2_clearTo_39 ?_
  obtain ⟨V6, hV6⟩ : ∃ z, z = wr3_clear V5 0 := ⟨_, rfl⟩
  refine j_callv cx (pc := 40) 0 (c_X3_clear l D Y (ad 13) (ad 14) (lkU V5 0)  ) gX2_clearTo_X3_clear rfl (by decide +kernel) rfl ⟨Nat.le_of_ble_eq_true rfl, Nat.le_of_ble_eq_true rfl⟩ [3] rfl (by decide) (Bs' := LB Y ad V6) (by rw [hV6]; exact P1_lk Y ad V5 (C3_clear (lkU V5 0) ) (k := 0) (by decide)) A1_lk 3 0 rfl rfl rfl rfl (Nat.le_of_ble_eq_true rfl) dX2_clearTo_40 ⟨Nat.zero_le _, Nat.zero_le _⟩ ?_
  refine j_iinc cx (pc := 43) (v := (nI 1)) (lv' := [(2, .int (nI 1)), (0, .ref (ad 0)), (1, .int stages)]) dX2_clearTo_43 0 rfl rfl (by decide) rfl ?_
  refine j_goto cx (pc := 46) (tgt := 28) dX2_clearTo_46 (by decide) ?_
  refine j_iload_n cx (pc := 28) dX2_clearTo_28 0 rfl ?_
  refine j_bipush cx (pc := 29) (v := (nI 7)) dX2_clearTo_29 (by decide) ?_
  refine j_icmpN_ge cx (pc := 31) (by decide) (by decide) (tgt := 49) dX2_clearTo_31 (by decide) (fun c31_2 => by exfalso; revert c31_2; decide) (fun c31_2 => ?_)
  refine j_aload_n cx (pc := 34) dX2_clearTo_34 1 rfl ?_
  refine j_get cx (pc := 35) 0 0 rfl rfl (C := RX2) (T := TX2) (N := 12) rfl hinX2 6 (by decide) f17 rfl (v := .ref (ad 2)) rfl dX2_clearTo_35 ?_
  refine j_iload_n cx (pc := 38) dX2_clearTo_38 0 rfl ?_
  refine j_aald cx (pc := 39) 0 2 3 rfl rfl rfl (by decide) (by decide) (a' := (ad 15)) rfl dX2_clearTo_39 ?_
  obtain ⟨V7, hV7⟩ : ∃ z, z = wr3_clear V6 1 := ⟨_, rfl⟩
  refine j_callv cx (pc := 40) 0 (c_X3_clear l D Y (ad 15) (ad 16) (lkU V6 1)  ) gX2_clearTo_X3_clear rfl (by decide +kernel) rfl ⟨Nat.le_of_ble_eq_true rfl, Nat.le_of_ble_eq_true rfl⟩ [4] rfl (by decide) (Bs' := LB Y ad V7) (by rw [hV7]; exact P1_lk Y ad V6 (C3_clear (lkU V6 1) ) (k := 1) (by decide)) A1_lk 4 0 rfl rfl rfl rfl (Nat.le_of_ble_eq_true rfl) dX2_clearTo_40 ⟨Nat.zero_le _, Nat.zero_le _⟩ ?_
  refine j_iinc cx (pc := 43) (v := (nI 2)) (lv' := [(2, .int (nI 2)), (0, .ref (ad 0)), (1, .int stages)]) dX2_clearTo_43 0 rfl rfl (by decide) rfl ?_
  refine j_goto cx (pc := 46) (tgt := 28) dX2_clearTo_46 (by decide) ?_
  refine j_iload_n cx (pc := 28) dX2_clearTo_28 0 rfl ?_
  refine j_bipush cx (pc := 29) (v := (nI 7)) dX2_clearTo_29 (by decide) ?_
  refine j_icmpN_ge cx (pc := 31) (by decide) (by decide) (tgt := 49) dX2_clearTo_31 (by decide) (fun c31_3 => by exfalso; revert c31_3; decide) (fun c31_3 => ?_)
  refine j_aload_n cx (pc := 34) dX2_clearTo_34 1 rfl ?_
  refine j_get cx (pc := 35) 0 0 rfl rfl (C := RX2) (T := TX2) (N := 12) rfl hinX2 6 (by decide) f17 rfl (v := .ref (ad 2)) rfl dX2_clearTo_35 ?_
  refine j_iload_n cx (pc := 38) dX2_clearTo_38 0 rfl ?_
  refine j_aald cx (pc := 39) 0 2 3 rfl rfl rfl (by decide) (by decide) (a' := (ad 17)) rfl dX2_clearTo_39 ?_
  obtain ⟨V8, hV8⟩ : ∃ z, z = wr3_clear V7 2 := ⟨_, rfl⟩
  refine j_callv cx (pc := 40) 0 (c_X3_clear l D Y (ad 17) (ad 18) (lkU V7 2)  ) gX2_clearTo_X3_clear rfl (by decide +kernel) rfl ⟨Nat.le_of_ble_eq_true rfl, Nat.le_of_ble_eq_true rfl⟩ [5] rfl (by decide) (Bs' := LB Y ad V8) (by rw [hV8]; exact P1_lk Y ad V7 (C3_clear (lkU V7 2) ) (k := 2) (by decide)) A1_lk 5 0 rfl rfl rfl rfl (Nat.le_of_ble_eq_true rfl) dX2_clearTo_40 ⟨Nat.zero_le _, Nat.zero_le _⟩ ?_
  refine j_iinc cx (pc := 43) (v := (nI 3)) (lv' := [(2, .int (nI 3)), (0, .ref (ad 0)), (1, .int stages)]) dX2_clearTo_43 0 rfl rfl (by decide) rfl ?_
  refine j_goto cx (pc := 46) (tgt := 28) dX2_clearTo_46 (by decide) ?_
  refine j_iload_n cx (pc := 28) dX2_clearTo_28 0 rfl ?_
  refine j_bipush cx (pc := 29) (v := (nI 7)) dX2_clearTo_29 (by decide) ?_
  refine j_icmpN_ge cx (pc := 31) (by decide) (by decide) (tgt := 49) dX2_clearTo_31 (by decide) (fun c31_4 => by exfalso; revert c31_4; decide) (fun c31_4 => ?_)
  refine j_aload_n cx (pc := 34) dX2_clearTo_34 1 rfl ?_
  refine j_get cx (pc := 35) 0 0 rfl rfl (C := RX2) (T := TX2) (N := 12) rfl hinX2 6 (by decide) f17 rfl (v := .ref (ad 2)) rfl dX2_clearTo_35 ?_
  refine j_iload_n cx (pc := 38) dX2_clearTo_38 0 rfl ?_
  refine j_aald cx (pc := 39) 0 2 3 rfl rfl rfl (by decide) (by decide) (a' := (ad 19)) rfl dX2_clearTo_39 ?_
  obtain ⟨V9, hV9⟩ : ∃ z, z = wr3_clear V8 3 := ⟨_, rfl⟩
  refine j_callv cx (pc := 40) 0 (c_X3_clear l D Y (ad 19) (ad 20) (lkU V8 3)  ) gX2_clearTo_X3_clear rfl (by decide +kernel) rfl ⟨Nat.le_of_ble_eq_true rfl, Nat.le_of_ble_eq_true rfl⟩ [6] rfl (by decide) (Bs' := LB Y ad V9) (by rw [hV9]; exact P1_lk Y ad V8 (C3_clear (lkU V8 3) ) (k := 3) (by decide)) A1_lk 6 0 rfl rfl rfl rfl (Nat.le_of_ble_eq_true rfl) dX2_clearTo_40 ⟨Nat.zero_le _, Nat.zero_le _⟩ ?_
  refine j_iinc cx (pc := 43) (v := (nI 4)) (lv' := [(2, .int (nI 4)), (0, .ref (ad 0)), (1, .int stages)]) dX2_clearTo_43 0 rfl rfl (by decide) rfl ?_
  refine j_goto cx (pc := 46) (tgt := 28) dX2_clearTo_46 (by decide) ?_
  refine j_iload_n cx (pc := 28) dX2_clearTo_28 0 rfl ?_
  refine j_bipush cx (pc := 29) (v := (nI 7)) dX2_clearTo_29 (by decide) ?_
  refine j_icmpN_ge cx (pc := 31) (by decide) (by decide) (tgt := 49) dX2_clearTo_31 (by decide) (fun c31_5 => by exfalso; revert c31_5; decide) (fun c31_5 => ?_)
  refine j_aload_n cx (pc := 34) dX2_clearTo_34 1 rfl ?_
  refine j_get cx (pc := 35) 0 0 rfl rfl (C := RX2) (T := TX2) (N := 12) rfl hinX2 6 (by decide) f17 rfl (v := .ref (ad 2)) rfl dX2_clearTo_35 ?_
  refine j_iload_n cx (pc := 38) dX2_clearTo_38 0 rfl ?_
  refine j_aald cx (pc := 39) 0 2 3 rfl rfl rfl (by decide) (by decide) (a' := (ad 21)) rfl dX2_clearTo_39 ?_
  obtain ⟨V10, hV10⟩ : ∃ z, z = wr3_clear V9 4 := ⟨_, rfl⟩
  refine j_callv cx (pc := 40) 0 (c_X3_clear l D Y (ad 21) (ad 22) (lkU V9 4)  ) gX2_clearTo_X3_clear rfl (by decide +kernel) rfl ⟨Nat.le_of_ble_eq_true rfl, Nat.le_of_ble_eq_true rfl⟩ [7] rfl (by decide) (Bs' := LB Y ad V10) (by rw [hV10]; exact P1_lk Y ad V9 (C3_clear (lkU V9 4) ) (k := 4) (by decide)) A1_lk 7 0 rfl rfl rfl rfl (Nat.le_of_ble_eq_true rfl) dX2_clearTo_40 ⟨Nat.zero_le _, Nat.zero_le _⟩ ?_
  refine j_iinc cx (pc := 43) (v := (nI 5)) (lv' := [(2, .int (nI 5)), (0, .ref (ad 0)), (1, .int stages)]) dX2_clearTo_43 0 rfl rfl (by decide) rfl ?_
  refine j_goto cx (pc := 46) (tgt := 28) dX2_clearTo_46 (by decide) ?_
  refine j_iload_n cx (pc := 28) dX2_clearTo_28 0 rfl ?_
  refine j_bipush cx (pc := 29) (v := (nI 7)) dX2_clearTo_29 (by decide) ?_
  refine j_icmpN_ge cx (pc := 31) (by decide) (by decide) (tgt := 49) dX2_clearTo_31 (by decide) (fun c31_6 => by exfalso; revert c31_6; decide) (fun c31_6 => ?_)
  refine j_aload_n cx (pc := 34) dX2_clearTo_34 1 rfl ?_
  refine j_get cx (pc := 35) 0 0 rfl rfl (C := RX2) (T := TX2) (N := 12) rfl hinX2 6 (by decide) f17 rfl (v := .ref (ad 2)) rfl dX2_clearTo_35 ?_
  refine j_iload_n cx (pc := 38) dX2_clearTo_38 0 rfl ?_
  refine j_aald cx (pc := 39) 0 2 3 rfl rfl rfl (by decide) (by decide) (a' := (ad 23)) rfl dX2_clearTo_39 ?_
  obtain ⟨V11, hV11⟩ : ∃ z, z = wr3_clear V10 5 := ⟨_, rfl⟩
  refine j_callv cx (pc := 40) 0 (c_X3_clear l D Y (ad 23) (ad 24) (lkU V10 5)  ) gX2_clearTo_X3_clear rfl (by decide +kernel) rfl ⟨Nat.le_of_ble_eq_true rfl, Nat.le_of_ble_eq_true rfl⟩ [8] rfl (by decide) (Bs' := LB Y ad V11) (by rw [hV11]; exact P1_lk Y ad V10 (C3_clear (lkU V10 5) ) (k := 5) (by decide)) A1_lk 8 0 rfl rfl rfl rfl (Nat.le_of_ble_eq_true rfl) dX2_clearTo_40 ⟨Nat.zero_le _, Nat.zero_le _⟩ ?_
  refine j_iinc cx (pc := 43) (v := (nI 6)) (lv' := [(2, .int (nI 6)), (0, .ref (ad 0)), (1, .int stages)]) dX2_clearTo_43 0 rfl rfl (by decide) rfl ?_
  refine j_goto cx (pc := 46) (tgt := 28) dX2_clearTo_46 (by decide) ?_
  refine j_iload_n cx (pc := 28) dX2_clearTo_28 0 rfl ?_
  refine j_bipush cx (pc := 29) (v := (nI 7)) dX2_clearTo_29 (by decide) ?_
  refine j_icmpN_ge cx (pc := 31) (by decide) (by decide) (tgt := 49) dX2_clearTo_31 (by decide) (fun c31_7 => by exfalso; revert c31_7; decide) (fun c31_7 => ?_)
  refine j_aload_n cx (pc := 34) dX2_clearTo_34 1 rfl ?_
  refine j_get cx (pc := 35) 0 0 rfl rfl (C := RX2) (T := TX2) (N := 12) rfl hinX2 6 (by decide) f17 rfl (v := .ref (ad 2)) rfl dX2_clearTo_35 ?_
  refine j_iload_n cx (pc := 38) dX2_clearTo_38 0 rfl ?_
  refine j_aald cx (pc := 39) 0 2 3 rfl rfl rfl (by decide) (by decide) (a' := (ad 25)) rfl dX2_clearTo_39 ?_
  obtain ⟨V12, hV12⟩ : ∃ z, z = wr3_clear V11 6 := ⟨_, rfl⟩
  refine j_callv cx (pc := 40) 0 (c_X3_clear l D Y (ad 25) (ad 26) (lkU V11 6)  ) gX2_clearTo_X3_clear rfl (by decide +kernel) rfl ⟨Nat.le_of_ble_eq_true rfl, Nat.le_of_ble_eq_true rfl⟩ [9] rfl (by decide) (Bs' := LB Y ad V12) (by rw [hV12]; exact P1_lk Y ad V11 (C3_clear (lkU V11 6) ) (k := 6) (by decide)) A1_lk 9 0 rfl rfl rfl rfl (Nat.le_of_ble_eq_true rfl) dX2_clearTo_40 ⟨Nat.zero_le _, Nat.zero_le _⟩ ?_
  refine j_iinc cx (pc := 43) (v := (nI 7)) (lv' := [(2, .int (nI 7)), (0, .ref (ad 0)), (1, .int stages)]) dX2_clearTo_43 0 rfl rfl (by decide) rfl ?_
  refine j_goto cx (pc := 46) (tgt := 28) dX2_clearTo_46 (by decide) ?_
  refine j_iload_n cx (pc := 28) dX2_clearTo_28 0 rfl ?_
  refine j_bipush cx (pc := 29) (v := (nI 7)) dX2_clearTo_29 (by decide) ?_
  refine j_icmpN_ge cx (pc := 31) (by decide) (by decide) (tgt := 49) dX2_clearTo_31 (by decide) (fun c31_8 => ?_) (fun c31_8 => by exfalso; revert c31_8; decide)
  refine j_iconst cx (pc := 49) (v := (nI 0)) dX2_clearTo_49 (by decide) ?_
  refine j_istore_n cx (pc := 50) (lv' := [(2, .int (nI 0)), (0, .ref (ad 0)), (1, .int stages)]) dX2_clearTo_50 (by decide) rfl ?_
  refine j_iload_n cx (pc := 51) dX2_clearTo_51 0 rfl ?_
  refine j_bipush cx (pc := 52) (v := (nI 6)) dX2_clearTo_52 (by decide) ?_
  refine j_icmpN_ge cx (pc := 54) (by decide) (by decide) (tgt := 70) dX2_clearTo_54 (by decide) (fun c54_9 => by exfalso; revert c54_9; decide) (fun c54_9 => ?_)
  refine j_aload_n cx (pc := 57) dX2_clearTo_57 1 rfl ?_
  refine j_get cx (pc := 58) 0 0 rfl rfl (C := RX2) (T := TX2) (N := 12) rfl hinX2 7 (by decide) f21 rfl (v := .ref (ad 3)) rfl dX2_clearTo_58 ?_
  refine j_iload_n cx (pc := 61) dX2_clearTo_61 0 rfl ?_
  refine j_iconst cx (pc := 62) (v := (-1)) dX2_clearTo_62 (by decide) ?_
  obtain ⟨V13, hV13⟩ : ∃ z, z = up1 V12 2 0 (-1) := ⟨_, rfl⟩
  refine j_iast cx (pc := 63) 0 3 0 rfl rfl rfl (by decide) (by decide) (Bs' := LB Y ad V13) (by rw [hV13]; rfl) dX2_clearTo_63 ?_
  refine j_iinc cx (pc := 64) (v := (nI 1)) (lv' := [(2, .int (nI 1)), (0, .ref (ad 0)), (1, .int stages)]) dX2_clearTo_64 0 rfl rfl (by decide) rfl ?_
  refine j_goto cx (pc := 67) (tgt := 51) dX2_clearTo_67 (by decide) ?_
  refine j_iload_n cx (pc := 51) dX2_clearTo_51 0 rfl ?_
  refine j_bipush cx (pc := 52) (v := (nI 6)) dX2_clearTo_52 (by decide) ?_
  refine j_icmpN_ge cx (pc := 54) (by decide) (by decide) (tgt := 70) dX2_clearTo_54 (by decide) (fun c54_10 => by exfalso; revert c54_10; decide) (fun c54_10 => ?_)
  refine j_aload_n cx (pc := 57) dX2_clearTo_57 1 rfl ?_
  refine j_get cx (pc := 58) 0 0 rfl rfl (C := RX2) (T := TX2) (N := 12) rfl hinX2 7 (by decide) f21 rfl (v := .ref (ad 3)) rfl dX2_clearTo_58 ?_
  refine j_iload_n cx (pc := 61) dX2_clearTo_61 0 rfl ?_
  refine j_iconst cx (pc := 62) (v := (-1)) dX2_clearTo_62 (by decide) ?_
  obtain ⟨V14, hV14⟩ : ∃ z, z = up1 V13 2 1 (-1) := ⟨_, rfl⟩
  refine j_iast cx (pc := 63) 0 3 0 rfl rfl rfl (by decide) (by decide) (Bs' := LB Y ad V14) (by rw [hV14]; rfl) dX2_clearTo_63 ?_
  refine j_iinc cx (pc := 64) (v := (nI 2)) (lv' := [(2, .int (nI 2)), (0, .ref (ad 0)), (1, .int stages)]) dX2_clearTo_64 0 rfl rfl (by decide) rfl ?_
  refine j_goto cx (pc := 67) (tgt := 51) dX2_clearTo_67 (by decide) ?_
  refine j_iload_n cx (pc := 51) dX2_clearTo_51 0 rfl ?_
  refine j_bipush cx (pc := 52) (v := (nI 6)) dX2_clearTo_52 (by decide) ?_
  refine j_icmpN_ge cx (pc := 54) (by decide) (by decide) (tgt := 70) dX2_clearTo_54 (by decide) (fun c54_11 => by exfalso; revert c54_11; decide) (fun c54_11 => ?_)
  refine j_aload_n cx (pc := 57) dX2_clearTo_57 1 rfl ?_
  refine j_get cx (pc := 58) 0 0 rfl rfl (C := RX2) (T := TX2) (N := 12) rfl hinX2 7 (by decide) f21 rfl (v := .ref (ad 3)) rfl dX2_clearTo_58 ?_
  refine j_iload_n cx (pc := 61) dX2_clearTo_61 0 rfl ?_
  refine j_iconst cx (pc := 62) (v := (-1)) dX2_clearTo_62 (by decide) ?_
  obtain ⟨V15, hV15⟩ : ∃ z, z = up1 V14 2 2 (-1) := ⟨_, rfl⟩
  refine j_iast cx (pc := 63) 0 3 0 rfl rfl rfl (by decide) (by decide) (Bs' := LB Y ad V15) (by rw [hV15]; rfl) dX2_clearTo_63 ?_
  refine j_iinc cx (pc := 64) (v := (nI 3)) (lv' := [(2, .int (nI 3)), (0, .ref (ad 0)), (1, .int stages)]) dX2_clearTo_64 0 rfl rfl (by decide) rfl ?_
  refine j_goto cx (pc := 67) (tgt := 51) dX2_clearTo_67 (by decide) ?_
  refine j_iload_n cx (pc := 51) dX2_clearTo_51 0 rfl ?_
  refine j_bipush cx (pc := 52) (v := (nI 6)) dX2_clearTo_52 (by decide) ?_
  refine j_icmpN_ge cx (pc := 54) (by decide) (by decide) (tgt := 70) dX2_clearTo_54 (by decide) (fun c54_12 => by exfalso; revert c54_12; decide) (fun c54_12 => ?_)
  refine j_aload_n cx (pc := 57) dX2_clearTo_57 1 rfl ?_
  refine j_get cx (pc := 58) 0 0 rfl rfl (C := RX2) (T := TX2) (N := 12) rfl hinX2 7 (by decide) f21 rfl (v := .ref (ad 3)) rfl dX2_clearTo_58 ?_
  refine j_iload_n cx (pc := 61) dX2_clearTo_61 0 rfl ?_
  refine j_iconst cx (pc := 62) (v := (-1)) dX2_clearTo_62 (by decide) ?_
  obtain ⟨V16, hV16⟩ : ∃ z, z = up1 V15 2 3 (-1) := ⟨_, rfl⟩
  refine j_iast cx (pc := 63) 0 3 0 rfl rfl rfl (by decide) (by decide) (Bs' := LB Y ad V16) (by rw [hV16]; rfl) dX2_clearTo_63 ?_
  refine j_iinc cx (pc := 64) (v := (nI 4)) (lv' := [(2, .int (nI 4)), (0, .ref (ad 0)), (1, .int stages)]) dX2_clearTo_64 0 rfl rfl (by decide) rfl ?_
  refine j_goto cx (pc := 67) (tgt := 51) dX2_clearTo_67 (by decide) ?_
  refine j_iload_n cx (pc := 51) dX2_clearTo_51 0 rfl ?_
  refine j_bipush cx (pc := 52) (v := (nI 6)) dX2_clearTo_52 (by decide) ?_
  refine j_icmpN_ge cx (pc := 54) (by decide) (by decide) (tgt := 70) dX2_clearTo_54 (by decide) (fun c54_13 => by exfalso; revert c54_13; decide) (fun c54_13 => ?_)
  refine j_aload_n cx (pc := 57) dX2_clearTo_57 1 rfl ?_
  refine j_get cx (pc := 58) 0 0 rfl rfl (C := RX2) (T := TX2) (N := 12) rfl hinX2 7 (by decide) f21 rfl (v := .ref (ad 3)) rfl dX2_clearTo_58 ?_
  refine j_iload_n cx (pc := 61) dX2_clearTo_61 0 rfl ?_
  refine j_iconst cx (pc := 62) (v := (-1)) dX2_clearTo_62 (by decide) ?_
  obtain ⟨V17, hV17⟩ : ∃ z, z = up1 V16 2 4 (-1) := ⟨_, rfl⟩
  refine j_iast cx (pc := 63) 0 3 0 rfl rfl rfl (by decide) (by decide) (Bs' := LB Y ad V17) (by rw [hV17]; rfl) dX2_clearTo_63 ?_
  refine j_iinc cx (pc := 64) (v := (nI 5)) (lv' := [(2, .int (nI 5)), (0, .ref (ad 0)), (1, .int stages)]) dX2_clearTo_64 0 rfl rfl (by decide) rfl ?_
  refine j_goto cx (pc := 67) (tgt := 51) dX2_clearTo_67 (by decide) ?_
  refine j_iload_n cx (pc := 51) dX2_clearTo_51 0 rfl ?_
  refine j_bipush cx (pc := 52) (v := (nI 6)) dX2_clearTo_52 (by decide) ?_
  refine j_icmpN_ge cx (pc := 54) (by decide) (by decide) (tgt := 70) dX2_clearTo_54 (by decide) (fun c54_14 => by exfalso; revert c54_14; decide) (fun c54_14 => ?_)
  refine j_aload_n cx (pc := 57) dX2_clearTo_57 1 rfl ?_
  refine j_get cx (pc := 58) 0 0 rfl rfl (C := RX2) (T := TX2) (N := 12) rfl hinX2 7 (by decide) f21 rfl (v := .ref (ad 3)) rfl dX2_clearTo_58 ?_
  refine j_iload_n cx (pc := 61) dX2_clearTo_61 0 rfl ?_
  refine j_iconst cx (pc := 62) (v := (-1)) dX2_clearTo_62 (by decide) ?_
  obtain ⟨V18, hV18⟩ : ∃ z, z = up1 V17 2 5 (-1) := ⟨_, rfl⟩
  refine j_iast cx (pc := 63) 0 3 0 rfl rfl rfl (by decide) (by decide) (Bs' := LB Y ad V18) (by rw [hV18]; rfl) dX2_clearTo_63 ?_
  refine j_iinc cx (pc := 64) (v := (nI 6)) (lv' := [(2, .int (nI 6)), (0, .ref (ad 0)), (1, .int stages)]) dX2_clearTo_64 0 rfl rfl (by decide) rfl ?_
  refine j_goto cx (pc := 67) (tgt := 51) dX2_clearTo_67 (by decide) ?_
  refine j_iload_n cx (pc := 51) dX2_clearTo_51 0 rfl ?_
  refine j_bipush cx (pc := 52) (v := (nI 6)) dX2_clearTo_52 (by decide) ?_
  refine j_icmpN_ge cx (pc := 54) (by decide) (by decide) (tgt := 70) dX2_clearTo_54 (by decide) (fun c54_15 => ?_) (fun c54_15 => by exfalso; revert c54_15; decide)
  refine j_iconst cx (pc := 70) (v := (nI 0)) dX2_clearTo_70 (by decide) ?_
  refine j_istore_n cx (pc := 71) (lv' := [(2, .int (nI 0)), (0, .ref (ad 0)), (1, .int stages)]) dX2_clearTo_71 (by decide) rfl ?_
  refine j_iload_n cx (pc := 72) dX2_clearTo_72 0 rfl ?_
  refine j_iconst cx (pc := 73) (v := (nI 2)) dX2_clearTo_73 (by decide) ?_
  refine j_icmpN_ge cx (pc := 74) (by decide) (by decide) (tgt := 93) dX2_clearTo_74 (by decide) (fun c74_16 => by exfalso; revert c74_16; decide) (fun c74_16 => ?_)
  refine j_aload_n cx (pc := 77) dX2_clearTo_77 1 rfl ?_
  refine j_get cx (pc := 78) 0 0 rfl rfl (C := RX2) (T := TX2) (N := 12) rfl hinX2 8 (by decide) f26 rfl (v := .ref (ad 4)) rfl dX2_clearTo_78 ?_
  refine j_iload_n cx (pc := 81) dX2_clearTo_81 0 rfl ?_
  refine j_aald cx (pc := 82) 0 4 4 rfl rfl rfl (by decide) (by decide) (a' := (ad 27)) rfl dX2_clearTo_82 ?_
  refine j_iconst cx (pc := 83) (v := (nI 0)) dX2_clearTo_83 (by decide) ?_
  obtain ⟨V19, hV19⟩ : ∃ z, z = up1 V18 27 0 (nI 0) := ⟨_, rfl⟩
  refine j_put cx (pc := 84) 10 0 rfl rfl (C := RX5) (T := TX5) (N := 2) rfl hinX5 tyX5 tyX5_ok nmX5 1 (by decide) f72 rfl rfl rfl rfl (Nat.le_of_ble_eq_true rfl) (Bs' := LB Y ad V19) (by rw [hV19]; rfl) dX2_clearTo_84 ?_
  refine j_iinc cx (pc := 87) (v := (nI 1)) (lv' := [(2, .int (nI 1)), (0, .ref (ad 0)), (1, .int stages)]) dX2_clearTo_87 0 rfl rfl (by decide) rfl ?_
  refine j_goto cx (pc := 90) (tgt := 72) dX2_clearTo_90 (by decide) ?_
  refine j_iload_n cx (pc := 72) dX2_clearTo_72 0 rfl ?_
  refine j_iconst cx (pc := 73) (v := (nI 2)) dX2_clearTo_73 (by decide) ?_
  refine j_icmpN_ge cx (pc := 74) (by decide) (by decide) (tgt := 93) dX2_clearTo_74 (by decide) (fun c74_17 => by exfalso; revert c74_17; decide) (fun c74_17 => ?_)
  refine j_aload_n cx (pc := 77) dX2_clearTo_77 1 rfl ?_
  refine j_get cx (pc := 78) 0 0 rfl rfl (C := RX2) (T := TX2) (N := 12) rfl hinX2 8 (by decide) f26 rfl (v := .ref (ad 4)) rfl dX2_clearTo_78 ?_
  refine j_iload_n cx (pc := 81) dX2_clearTo_81 0 rfl ?_
  refine j_aald cx (pc := 82) 0 4 4 rfl rfl rfl (by decide) (by decide) (a' := (ad 29)) rfl dX2_clearTo_82 ?_
  refine j_iconst cx (pc := 83) (v := (nI 0)) dX2_clearTo_83 (by decide) ?_
  obtain ⟨V20, hV20⟩ : ∃ z, z = up1 V19 28 0 (nI 0) := ⟨_, rfl⟩
  refine j_put cx (pc := 84) 11 0 rfl rfl (C := RX5) (T := TX5) (N := 2) rfl hinX5 tyX5 tyX5_ok nmX5 1 (by decide) f72 rfl rfl rfl rfl (Nat.le_of_ble_eq_true rfl) (Bs' := LB Y ad V20) (by rw [hV20]; rfl) dX2_clearTo_84 ?_
  refine j_iinc cx (pc := 87) (v := (nI 2)) (lv' := [(2, .int (nI 2)), (0, .ref (ad 0)), (1, .int stages)]) dX2_clearTo_87 0 rfl rfl (by decide) rfl ?_
  refine j_goto cx (pc := 90) (tgt := 72) dX2_clearTo_90 (by decide) ?_
  refine j_iload_n cx (pc := 72) dX2_clearTo_72 0 rfl ?_
  refine j_iconst cx (pc := 73) (v := (nI 2)) dX2_clearTo_73 (by decide) ?_
  refine j_icmpN_ge cx (pc := 74) (by decide) (by decide) (tgt := 93) dX2_clearTo_74 (by decide) (fun c74_18 => ?_) (fun c74_18 => by exfalso; revert c74_18; decide)
  refine j_aload_n cx (pc := 93) dX2_clearTo_93 1 rfl ?_
  refine j_get cx (pc := 94) 0 0 rfl rfl (C := RX2) (T := TX2) (N := 12) rfl hinX2 9 (by decide) f33 rfl (v := .ref (ad 5)) rfl dX2_clearTo_94 ?_
  refine j_iconst cx (pc := 97) (v := (nI 0)) dX2_clearTo_97 (by decide) ?_
  obtain ⟨V21, hV21⟩ : ∃ z, z = up1 V20 4 1 (nI 0) := ⟨_, rfl⟩
  refine j_put cx (pc := 98) 1 0 rfl rfl (C := RX0) (T := TX0) (N := 4) rfl hinX0 tyX0 tyX0_ok nmX0 3 (by decide) f75 rfl rfl rfl rfl (Nat.le_of_ble_eq_true rfl) (Bs' := LB Y ad V21) (by rw [hV21]; rfl) dX2_clearTo_98 ?_
  refine j_aload_n cx (pc := 101) dX2_clearTo_101 1 rfl ?_
  refine j_get cx (pc := 102) 0 0 rfl rfl (C := RX2) (T := TX2) (N := 12) rfl hinX2 10 (by decide) f40 rfl (v := .ref (ad 8)) rfl dX2_clearTo_102 ?_
  obtain ⟨V22, hV22⟩ : ∃ z, z = wr4_clear V21 := ⟨_, rfl⟩
  refine j_callv cx (pc := 105) 0 (c_X4_clear l D Y (ad 8) (ad 9) (ad 10) (ad 11) (ntU V21)  ) gX2_clearTo_X4_clear rfl (by decide +kernel) rfl ⟨Nat.le_of_ble_eq_true rfl, Nat.le_of_ble_eq_true rfl⟩ [2] rfl (by decide) (Bs' := LB Y ad V22) (by rw [hV22]; exact P1_nt Y ad V21 (C4_clear (ntU V21) )) A1_nt 2 0 rfl rfl rfl rfl (Nat.le_of_ble_eq_true rfl) dX2_clearTo_105 ⟨Nat.zero_le _, Nat.zero_le _⟩ ?_
  subst hQ; exact j_vret cx hr (by subst hV22; subst hV21; subst hV20; subst hV19; subst hV18; subst hV17; subst hV16; subst hV15; subst hV14; subst hV13; subst hV12; subst hV11; subst hV10; subst hV9; subst hV8; subst hV7; subst hV6; subst hV5; subst hV4; subst hV3; subst hV2; subst hV1; rfl) hA dX2_clearTo_108
def blOK (x : Int32) : Prop := narrow .boolean (.int x) = .int x ∧ fits .boolean (.int x) = true
