/-- what the text's numbers keep to: its length, its orders -/
abbrev txOK (T : Nat → Nat → Int32) : Prop := vp_in (T 0 0) 61 ∧ vp_in (T 0 1) 21
theorem nb_of {x : Int32} (h : x = nI 0 ∨ x = nI 1) : narrow .boolean (.int x) = .int x := by rcases h with rfl | rfl <;> rfl
def C6_digitOf (T : Nat → Nat → Int32) (sign : Int32) : Int32 :=
  if sign < (nI 48) then
    if sign < (nI 97) then
      (-1)
    else
      if (nI 102) < sign then
        (-1)
      else
        ((sign - (nI 97)) + (nI 10))
  else
    if (nI 57) < sign then
      if sign < (nI 97) then
        (-1)
      else
        if (nI 102) < sign then
          (-1)
        else
          ((sign - (nI 97)) + (nI 10))
    else
      (sign - (nI 48))
set_option maxHeartbeats 4000000 in
set_option maxRecDepth 100000 in
theorem c_X6_digitOf (l : Launch) (D : va_G) (Y : Nat → ClassId) (tx : Nat → Nat) (T : Nat → Nat → Int32) (sign : Int32)  : CtI l yX6_digitOf wsX6_digitOf 0 0 D (tyL Y) ([txB Y tx T]) [.ref (tx 0), .int sign] (C6_digitOf T sign) ([txB Y tx T]) := by
  refine CtI.intro (own := RX6) (cc := cX6_digitOf) (maxL := 2) rfl (by decide +kernel) rfl (Nat.le_of_ble_eq_true rfl) (fun p e s m args below meth c A Q hA hQ cx hr => ?_)
  refine j_iload_n cx (pc := 0) dX6_digitOf_0 1 rfl ?_
  refine j_bipush cx (pc := 1) (v := (nI 48)) dX6_digitOf_1 (by decide) ?_
  refine j_icmp_lt cx (pc := 3) (tgt := 17) dX6_digitOf_3 (by decide) (fun c3_1 => ?_) (fun c3_1 => ?_)
  · skip
    refine j_iload_n cx (pc := 17) dX6_digitOf_17 1 rfl ?_
    refine j_bipush cx (pc := 18) (v := (nI 97)) dX6_digitOf_18 (by decide) ?_
    refine j_icmp_lt cx (pc := 20) (tgt := 37) dX6_digitOf_20 (by decide) (fun c20_2 => ?_) (fun c20_2 => ?_)
    · skip
      refine j_iconst cx (pc := 37) (v := (-1)) dX6_digitOf_37 (by decide) ?_
      subst hQ; exact j_iret cx hr (by simp only [C6_digitOf, if_pos c3_1, if_pos c20_2]) rfl hA dX6_digitOf_38
    · skip
      refine j_iload_n cx (pc := 23) dX6_digitOf_23 1 rfl ?_
      refine j_bipush cx (pc := 24) (v := (nI 102)) dX6_digitOf_24 (by decide) ?_
      refine j_icmp_gt cx (pc := 26) (tgt := 37) dX6_digitOf_26 (by decide) (fun c26_3 => ?_) (fun c26_3 => ?_)
      · skip
        refine j_iconst cx (pc := 37) (v := (-1)) dX6_digitOf_37 (by decide) ?_
        subst hQ; exact j_iret cx hr (by simp only [C6_digitOf, if_pos c3_1, if_neg c20_2, if_pos c26_3]) rfl hA dX6_digitOf_38
      · skip
        refine j_iload_n cx (pc := 29) dX6_digitOf_29 1 rfl ?_
        refine j_bipush cx (pc := 30) (v := (nI 97)) dX6_digitOf_30 (by decide) ?_
        refine j_isub cx (pc := 32) dX6_digitOf_32 ?_
        refine j_bipush cx (pc := 33) (v := (nI 10)) dX6_digitOf_33 (by decide) ?_
        refine j_iadd cx (pc := 35) dX6_digitOf_35 ?_
        subst hQ; exact j_iret cx hr (by simp only [C6_digitOf, if_pos c3_1, if_neg c20_2, if_neg c26_3]) rfl hA dX6_digitOf_36
  · skip
    refine j_iload_n cx (pc := 6) dX6_digitOf_6 1 rfl ?_
    refine j_bipush cx (pc := 7) (v := (nI 57)) dX6_digitOf_7 (by decide) ?_
    refine j_icmp_gt cx (pc := 9) (tgt := 17) dX6_digitOf_9 (by decide) (fun c9_4 => ?_) (fun c9_4 => ?_)
    · skip
      refine j_iload_n cx (pc := 17) dX6_digitOf_17 1 rfl ?_
      refine j_bipush cx (pc := 18) (v := (nI 97)) dX6_digitOf_18 (by decide) ?_
      refine j_icmp_lt cx (pc := 20) (tgt := 37) dX6_digitOf_20 (by decide) (fun c20_5 => ?_) (fun c20_5 => ?_)
      · skip
        refine j_iconst cx (pc := 37) (v := (-1)) dX6_digitOf_37 (by decide) ?_
        subst hQ; exact j_iret cx hr (by simp only [C6_digitOf, if_neg c3_1, if_pos c9_4, if_pos c20_5]) rfl hA dX6_digitOf_38
      · skip
        refine j_iload_n cx (pc := 23) dX6_digitOf_23 1 rfl ?_
        refine j_bipush cx (pc := 24) (v := (nI 102)) dX6_digitOf_24 (by decide) ?_
        refine j_icmp_gt cx (pc := 26) (tgt := 37) dX6_digitOf_26 (by decide) (fun c26_6 => ?_) (fun c26_6 => ?_)
        · skip
          refine j_iconst cx (pc := 37) (v := (-1)) dX6_digitOf_37 (by decide) ?_
          subst hQ; exact j_iret cx hr (by simp only [C6_digitOf, if_neg c3_1, if_pos c9_4, if_neg c20_5, if_pos c26_6]) rfl hA dX6_digitOf_38
        · skip
          refine j_iload_n cx (pc := 29) dX6_digitOf_29 1 rfl ?_
          refine j_bipush cx (pc := 30) (v := (nI 97)) dX6_digitOf_30 (by decide) ?_
          refine j_isub cx (pc := 32) dX6_digitOf_32 ?_
          refine j_bipush cx (pc := 33) (v := (nI 10)) dX6_digitOf_33 (by decide) ?_
          refine j_iadd cx (pc := 35) dX6_digitOf_35 ?_
          subst hQ; exact j_iret cx hr (by simp only [C6_digitOf, if_neg c3_1, if_pos c9_4, if_neg c20_5, if_neg c26_6]) rfl hA dX6_digitOf_36
    · skip
      refine j_iload_n cx (pc := 12) dX6_digitOf_12 1 rfl ?_
      refine j_bipush cx (pc := 13) (v := (nI 48)) dX6_digitOf_13 (by decide) ?_
      refine j_isub cx (pc := 15) dX6_digitOf_15 ?_
      subst hQ; exact j_iret cx hr (by simp only [C6_digitOf, if_neg c3_1, if_neg c9_4]) rfl hA dX6_digitOf_16
def C6_current (T : Nat → Nat → Int32)  : Int32 :=
  if (T 0 2) < 0 then
    (-1)
  else
    if (tN (T 0 0)) ≤ (tN (T 0 2)) then
      (-1)
    else
      (T 1 (tN (T 0 2)))
set_option maxHeartbeats 4000000 in
set_option maxRecDepth 100000 in
theorem c_X6_current (l : Launch) (D : va_G) (Y : Nat → ClassId) (tx : Nat → Nat) (T : Nat → Nat → Int32)  (ht : txOK T) : CtI l yX6_current wsX6_current 0 0 D (tyL Y) ([txB Y tx T]) [.ref (tx 0)] (C6_current T ) ([txB Y tx T]) := by
  refine CtI.intro (own := RX6) (cc := cX6_current) (maxL := 1) rfl (by decide +kernel) rfl (Nat.le_of_ble_eq_true rfl) (fun p e s m args below meth c A Q hA hQ cx hr => ?_)
  have hinX6 : ∀ w ∈ wsX60, w ∈ wsX6_current := by decide +kernel
  have f9 : Cond.fieldLink RX6 9 "FourPhases$Text" "characters" "[I" ∈ wsX6_current := by decide +kernel
  have f24 : Cond.fieldLink RX6 24 "FourPhases$Text" "length" "I" ∈ wsX6_current := by decide +kernel
  have f28 : Cond.fieldLink RX6 28 "FourPhases$Text" "place" "I" ∈ wsX6_current := by decide +kernel
  have hl60 : tN (T 0 0) < 61 := inL ht.1
  refine j_aload_n cx (pc := 0) dX6_current_0 0 rfl ?_
  refine j_get cx (pc := 1) 0 0 rfl rfl (C := RX6) (T := TX6) (N := 7) rfl hinX6 6 (by decide) f28 rfl (v := .int (T 0 2)) rfl dX6_current_1 ?_
  refine j_if_lt cx (pc := 4) (tgt := 30) dX6_current_4 (by decide) (fun c4_1 => ?_) (fun c4_1 => ?_)
  · skip
    refine j_iconst cx (pc := 30) (v := (-1)) dX6_current_30 (by decide) ?_
    subst hQ; exact j_iret cx hr (by simp only [C6_current, if_pos c4_1]) rfl hA dX6_current_31
  · skip
    have hp : T 0 2 = nI (tN (T 0 2)) := inG c4_1
    have hp31 : tN (T 0 2) < 2 ^ 31 := tN_lt _
    refine j_aload_n cx (pc := 7) dX6_current_7 0 rfl ?_
    refine j_get cx (pc := 8) 0 0 rfl rfl (C := RX6) (T := TX6) (N := 7) rfl hinX6 6 (by decide) f28 rfl (v := .int (T 0 2)) rfl dX6_current_8 ?_
    refine j_top (show (T 0 2) = (nI (tN (T 0 2))) from hp) ?_
    refine j_aload_n cx (pc := 11) dX6_current_11 0 rfl ?_
    refine j_get cx (pc := 12) 0 0 rfl rfl (C := RX6) (T := TX6) (N := 7) rfl hinX6 1 (by decide) f24 rfl (v := .int (T 0 0)) rfl dX6_current_12 ?_
    refine j_top (show (T 0 0) = (nI (tN (T 0 0))) from inN ht.1) ?_
    refine j_icmpN_ge cx (pc := 15) (by omega) (by omega) (tgt := 30) dX6_current_15 (by decide) (fun c15_2 => ?_) (fun c15_2 => ?_)
    · skip
      refine j_iconst cx (pc := 30) (v := (-1)) dX6_current_30 (by decide) ?_
      subst hQ; exact j_iret cx hr (by simp only [C6_current, if_neg c4_1, if_pos c15_2]) rfl hA dX6_current_31
    · skip
      refine j_aload_n cx (pc := 18) dX6_current_18 0 rfl ?_
      refine j_get cx (pc := 19) 0 0 rfl rfl (C := RX6) (T := TX6) (N := 7) rfl hinX6 0 (by decide) f9 rfl (v := .ref (tx 1)) rfl dX6_current_19 ?_
      refine j_aload_n cx (pc := 22) dX6_current_22 0 rfl ?_
      refine j_get cx (pc := 23) 0 0 rfl rfl (C := RX6) (T := TX6) (N := 7) rfl hinX6 6 (by decide) f28 rfl (v := .int (T 0 2)) rfl dX6_current_23 ?_
      refine j_top (show (T 0 2) = (nI (tN (T 0 2))) from hp) ?_
      refine j_iald cx (pc := 26) 0 1 0 rfl rfl rfl (by omega) (by decide) dX6_current_26 ?_
      refine j_goto cx (pc := 27) (tgt := 31) dX6_current_27 (by decide) ?_
      subst hQ; exact j_iret cx hr (by simp only [C6_current, if_neg c4_1, if_neg (Nat.not_le.mpr c15_2)]) rfl hA dX6_current_31
def C6_append (T : Nat → Nat → Int32) (x : Int32) : Int32 × (Nat → Nat → Int32) :=
  if (tN (T 0 0)) < 60 then
    let V1 := up1 T 1 (tN (T 0 0)) x
    let V2 := up1 V1 0 0 ((V1 0 0) + (nI 1))
    ((V2 0 0), V2)
  else
    ((-3), T)
set_option maxHeartbeats 4000000 in
set_option maxRecDepth 100000 in
theorem c_X6_append (l : Launch) (D : va_G) (Y : Nat → ClassId) (tx : Nat → Nat) (T : Nat → Nat → Int32) (x : Int32) (ht : txOK T) (hx : vp_nar .char x = x) : CtI l yX6_append wsX6_append 0 0 D (tyL Y) ([txB Y tx T]) [.ref (tx 0), .int x] (C6_append T x).1 ([txB Y tx (C6_append T x).2]) := by
  refine CtI.intro (own := RX6) (cc := cX6_append) (maxL := 2) rfl (by decide +kernel) rfl (Nat.le_of_ble_eq_true rfl) (fun p e s m args below meth c A Q hA hQ cx hr => ?_)
  have hinX6 : ∀ w ∈ wsX60, w ∈ wsX6_append := by decide +kernel
  have f9 : Cond.fieldLink RX6 9 "FourPhases$Text" "characters" "[I" ∈ wsX6_append := by decide +kernel
  have f24 : Cond.fieldLink RX6 24 "FourPhases$Text" "length" "I" ∈ wsX6_append := by decide +kernel
  have hl60 : tN (T 0 0) < 61 := inL ht.1
  refine j_aload_n cx (pc := 0) dX6_append_0 0 rfl ?_
  refine j_get cx (pc := 1) 0 0 rfl rfl (C := RX6) (T := TX6) (N := 7) rfl hinX6 1 (by decide) f24 rfl (v := .int (T 0 0)) rfl dX6_append_1 ?_
  refine j_top (show (T 0 0) = (nI (tN (T 0 0))) from inN ht.1) ?_
  refine j_bipush cx (pc := 4) (v := (nI 60)) dX6_append_4 (by decide) ?_
  refine j_icmpN_lt cx (pc := 6) (by omega) (by decide) (tgt := 12) dX6_append_6 (by decide) (fun c6_1 => ?_) (fun c6_1 => ?_)
  · skip
    refine j_aload_n cx (pc := 12) dX6_append_12 0 rfl ?_
    refine j_get cx (pc := 13) 0 0 rfl rfl (C := RX6) (T := TX6) (N := 7) rfl hinX6 0 (by decide) f9 rfl (v := .ref (tx 1)) rfl dX6_append_13 ?_
    refine j_aload_n cx (pc := 16) dX6_append_16 0 rfl ?_
    refine j_get cx (pc := 17) 0 0 rfl rfl (C := RX6) (T := TX6) (N := 7) rfl hinX6 1 (by decide) f24 rfl (v := .int (T 0 0)) rfl dX6_append_17 ?_
    refine j_top (show (T 0 0) = (nI (tN (T 0 0))) from inN ht.1) ?_
    refine j_iload_n cx (pc := 20) dX6_append_20 1 rfl ?_
    obtain ⟨V1, hV1⟩ : ∃ z, z = up1 T 1 (tN (T 0 0)) x := ⟨_, rfl⟩
    have okV1 : txOK V1 := by rw [hV1]; exact ht
    refine j_iast cx (pc := 21) 0 1 0 rfl rfl rfl (by omega) (by decide) (Bs' := [txB Y tx V1]) (by rw [hV1]; rfl) dX6_append_21 ?_
    refine j_aload_n cx (pc := 22) dX6_append_22 0 rfl ?_
    refine j_dup cx (pc := 23) dX6_append_23 rfl ?_
    refine j_get cx (pc := 24) 0 0 rfl rfl (C := RX6) (T := TX6) (N := 7) rfl hinX6 1 (by decide) f24 rfl (v := .int (V1 0 0)) rfl dX6_append_24 ?_
    refine j_iconst cx (pc := 27) (v := (nI 1)) dX6_append_27 (by decide) ?_
    refine j_iadd cx (pc := 28) dX6_append_28 ?_
    obtain ⟨V2, hV2⟩ : ∃ z, z = up1 V1 0 0 ((V1 0 0) + (nI 1)) := ⟨_, rfl⟩
    refine j_put cx (pc := 29) 0 0 rfl rfl (C := RX6) (T := TX6) (N := 7) rfl hinX6 tyX6 tyX6_ok nmX6 1 (by decide) f24 rfl rfl rfl rfl (Nat.le_of_ble_eq_true rfl) (Bs' := [txB Y tx V2]) (by rw [hV2]; rfl) dX6_append_29 ?_
    refine j_aload_n cx (pc := 32) dX6_append_32 0 rfl ?_
    refine j_get cx (pc := 33) 0 0 rfl rfl (C := RX6) (T := TX6) (N := 7) rfl hinX6 1 (by decide) f24 rfl (v := .int (V2 0 0)) rfl dX6_append_33 ?_
    subst hQ; exact j_iret cx hr (by subst hV2; subst hV1; simp only [C6_append, if_pos c6_1]) (by subst hV2; subst hV1; simp only [C6_append, if_pos c6_1]) hA dX6_append_36
  · skip
    refine j_bipush cx (pc := 9) (v := (-3)) dX6_append_9 (by decide) ?_
    subst hQ; exact j_iret cx hr (by simp only [C6_append, if_neg (Nat.not_lt.mpr c6_1)]) (by simp only [C6_append, if_neg (Nat.not_lt.mpr c6_1)]) hA dX6_append_11
def C6_readSign (T : Nat → Nat → Int32) (sign : Int32) : Int32 × (Nat → Nat → Int32) :=
  if (C6_current T ) = sign then
    let V1 := up1 T 0 2 ((T 0 2) + (nI 1))
    ((nI 1), V1)
  else
    ((nI 0), T)
set_option maxHeartbeats 4000000 in
set_option maxRecDepth 100000 in
theorem c_X6_readSign (l : Launch) (D : va_G) (Y : Nat → ClassId) (tx : Nat → Nat) (T : Nat → Nat → Int32) (sign : Int32) (ht : txOK T) : CtI l yX6_readSign wsX6_readSign 1 20 D (tyL Y) ([txB Y tx T]) [.ref (tx 0), .int sign] (C6_readSign T sign).1 ([txB Y tx (C6_readSign T sign).2]) := by
  refine CtI.intro (own := RX6) (cc := cX6_readSign) (maxL := 2) rfl (by decide +kernel) rfl (Nat.le_of_ble_eq_true rfl) (fun p e s m args below meth c A Q hA hQ cx hr => ?_)
  have hinX6 : ∀ w ∈ wsX60, w ∈ wsX6_readSign := by decide +kernel
  have f28 : Cond.fieldLink RX6 28 "FourPhases$Text" "place" "I" ∈ wsX6_readSign := by decide +kernel
  refine j_aload_n cx (pc := 0) dX6_readSign_0 0 rfl ?_
  refine j_calli cx (pc := 1) 0 (c_X6_current l D Y tx T  ht) gX6_readSign_X6_current rfl (by decide +kernel) rfl ⟨Nat.le_of_ble_eq_true rfl, Nat.le_of_ble_eq_true rfl⟩ [0] rfl (by decide) (Bs' := [txB Y tx T]) rfl rfl 0 0 rfl rfl rfl rfl (Nat.le_of_ble_eq_true rfl) dX6_readSign_1 ⟨Nat.zero_le _, Nat.zero_le _⟩ ?_
  refine j_iload_n cx (pc := 4) dX6_readSign_4 1 rfl ?_
  refine j_icmp_eq cx (pc := 5) (tgt := 10) dX6_readSign_5 (by decide) (fun c5_1 => ?_) (fun c5_1 => ?_)
  · skip
    refine j_aload_n cx (pc := 10) dX6_readSign_10 0 rfl ?_
    refine j_dup cx (pc := 11) dX6_readSign_11 rfl ?_
    refine j_get cx (pc := 12) 0 0 rfl rfl (C := RX6) (T := TX6) (N := 7) rfl hinX6 6 (by decide) f28 rfl (v := .int (T 0 2)) rfl dX6_readSign_12 ?_
    refine j_iconst cx (pc := 15) (v := (nI 1)) dX6_readSign_15 (by decide) ?_
    refine j_iadd cx (pc := 16) dX6_readSign_16 ?_
    obtain ⟨V1, hV1⟩ : ∃ z, z = up1 T 0 2 ((T 0 2) + (nI 1)) := ⟨_, rfl⟩
    have okV1 : txOK V1 := by rw [hV1]; exact ht
    refine j_put cx (pc := 17) 0 0 rfl rfl (C := RX6) (T := TX6) (N := 7) rfl hinX6 tyX6 tyX6_ok nmX6 6 (by decide) f28 rfl rfl rfl rfl (Nat.le_of_ble_eq_true rfl) (Bs' := [txB Y tx V1]) (by rw [hV1]; rfl) dX6_readSign_17 ?_
    refine j_iconst cx (pc := 20) (v := (nI 1)) dX6_readSign_20 (by decide) ?_
    subst hQ; exact j_zret cx hr rfl (by subst hV1; simp only [C6_readSign, if_pos c5_1]) (by subst hV1; simp only [C6_readSign, if_pos c5_1]) hA dX6_readSign_21
  · skip
    refine j_iconst cx (pc := 8) (v := (nI 0)) dX6_readSign_8 (by decide) ?_
    subst hQ; exact j_zret cx hr rfl (by simp only [C6_readSign, if_neg c5_1]) (by simp only [C6_readSign, if_neg c5_1]) hA dX6_readSign_9
theorem tx_readSign {T : Nat → Nat → Int32} {x : Int32} (h : txOK T) : txOK (C6_readSign T x).2 := by
  unfold C6_readSign
  split <;> exact h
def C6_readDigit (T : Nat → Nat → Int32) (greatest : Int32) : Int32 × (Nat → Nat → Int32) :=
  if (C6_digitOf T (C6_current T )) = (-1) then
    ((-1), T)
  else
    if (C6_digitOf T (C6_current T )) ≤ greatest then
      let V1 := up1 T 0 2 ((T 0 2) + (nI 1))
      ((C6_digitOf T (C6_current T )), V1)
    else
      ((-1), T)
set_option maxHeartbeats 4000000 in
set_option maxRecDepth 100000 in
theorem c_X6_readDigit (l : Launch) (D : va_G) (Y : Nat → ClassId) (tx : Nat → Nat) (T : Nat → Nat → Int32) (greatest : Int32) (ht : txOK T) : CtI l yX6_readDigit wsX6_readDigit 1 21 D (tyL Y) ([txB Y tx T]) [.ref (tx 0), .int greatest] (C6_readDigit T greatest).1 ([txB Y tx (C6_readDigit T greatest).2]) := by
  refine CtI.intro (own := RX6) (cc := cX6_readDigit) (maxL := 3) rfl (by decide +kernel) rfl (Nat.le_of_ble_eq_true rfl) (fun p e s m args below meth c A Q hA hQ cx hr => ?_)
  have hinX6 : ∀ w ∈ wsX60, w ∈ wsX6_readDigit := by decide +kernel
  have f28 : Cond.fieldLink RX6 28 "FourPhases$Text" "place" "I" ∈ wsX6_readDigit := by decide +kernel
  refine j_aload_n cx (pc := 0) dX6_readDigit_0 0 rfl ?_
  refine j_aload_n cx (pc := 1) dX6_readDigit_1 0 rfl ?_
  refine j_calli cx (pc := 2) 0 (c_X6_current l D Y tx T  ht) gX6_readDigit_X6_current rfl (by decide +kernel) rfl ⟨Nat.le_of_ble_eq_true rfl, Nat.le_of_ble_eq_true rfl⟩ [0] rfl (by decide) (Bs' := [txB Y tx T]) rfl rfl 0 0 rfl rfl rfl rfl (Nat.le_of_ble_eq_true rfl) dX6_readDigit_2 ⟨Nat.zero_le _, Nat.zero_le _⟩ ?_
  refine j_calli cx (pc := 5) 1 (c_X6_digitOf l D Y tx T (C6_current T ) ) gX6_readDigit_X6_digitOf rfl (by decide +kernel) rfl ⟨Nat.le_of_ble_eq_true rfl, Nat.le_of_ble_eq_true rfl⟩ [0] rfl (by decide) (Bs' := [txB Y tx T]) rfl rfl 0 0 rfl rfl rfl rfl (Nat.le_of_ble_eq_true rfl) dX6_readDigit_5 ⟨Nat.zero_le _, Nat.zero_le _⟩ ?_
  refine j_istore_n cx (pc := 8) (lv' := [(2, .int (C6_digitOf T (C6_current T ))), (0, .ref (tx 0)), (1, .int greatest)]) dX6_readDigit_8 (by decide) rfl ?_
  refine j_iload_n cx (pc := 9) dX6_readDigit_9 0 rfl ?_
  refine j_iconst cx (pc := 10) (v := (-1)) dX6_readDigit_10 (by decide) ?_
  refine j_icmp_eq cx (pc := 11) (tgt := 19) dX6_readDigit_11 (by decide) (fun c11_1 => ?_) (fun c11_1 => ?_)
  · skip
    refine j_iconst cx (pc := 19) (v := (-1)) dX6_readDigit_19 (by decide) ?_
    subst hQ; exact j_iret cx hr (by simp only [C6_readDigit, if_pos c11_1]) (by simp only [C6_readDigit, if_pos c11_1]) hA dX6_readDigit_20
  · skip
    refine j_iload_n cx (pc := 14) dX6_readDigit_14 0 rfl ?_
    refine j_iload_n cx (pc := 15) dX6_readDigit_15 2 rfl ?_
    refine j_icmp_le cx (pc := 16) (tgt := 21) dX6_readDigit_16 (by decide) (fun c16_2 => ?_) (fun c16_2 => ?_)
    · skip
      refine j_aload_n cx (pc := 21) dX6_readDigit_21 1 rfl ?_
      refine j_dup cx (pc := 22) dX6_readDigit_22 rfl ?_
      refine j_get cx (pc := 23) 0 0 rfl rfl (C := RX6) (T := TX6) (N := 7) rfl hinX6 6 (by decide) f28 rfl (v := .int (T 0 2)) rfl dX6_readDigit_23 ?_
      refine j_iconst cx (pc := 26) (v := (nI 1)) dX6_readDigit_26 (by decide) ?_
      refine j_iadd cx (pc := 27) dX6_readDigit_27 ?_
      obtain ⟨V1, hV1⟩ : ∃ z, z = up1 T 0 2 ((T 0 2) + (nI 1)) := ⟨_, rfl⟩
      have okV1 : txOK V1 := by rw [hV1]; exact ht
      refine j_put cx (pc := 28) 0 0 rfl rfl (C := RX6) (T := TX6) (N := 7) rfl hinX6 tyX6 tyX6_ok nmX6 6 (by decide) f28 rfl rfl rfl rfl (Nat.le_of_ble_eq_true rfl) (Bs' := [txB Y tx V1]) (by rw [hV1]; rfl) dX6_readDigit_28 ?_
      refine j_iload_n cx (pc := 31) dX6_readDigit_31 0 rfl ?_
      subst hQ; exact j_iret cx hr (by subst hV1; simp only [C6_readDigit, if_neg c11_1, if_pos c16_2]) (by subst hV1; simp only [C6_readDigit, if_neg c11_1, if_pos c16_2]) hA dX6_readDigit_32
    · skip
      refine j_iconst cx (pc := 19) (v := (-1)) dX6_readDigit_19 (by decide) ?_
      subst hQ; exact j_iret cx hr (by simp only [C6_readDigit, if_neg c11_1, if_neg c16_2]) (by simp only [C6_readDigit, if_neg c11_1, if_neg c16_2]) hA dX6_readDigit_20
theorem tx_readDigit {T : Nat → Nat → Int32} {x : Int32} (h : txOK T) : txOK (C6_readDigit T x).2 := by
  unfold C6_readDigit
  split
  · exact h
  · split <;> exact h
def C6_store (T : Nat → Nat → Int32) (letter : Int32) (target : Int32) (value : Int32) (least : Int32) : Int32 × (Nat → Nat → Int32) :=
  if value < least then
    ((nI 0), T)
  else
    if (tN (T 0 1)) < 20 then
      let V1 := up1 T 2 (tN (T 0 1)) letter
      let V2 := up1 V1 3 (tN (T 0 1)) target
      let V3 := up1 V2 4 (tN (T 0 1)) value
      let V4 := up1 V3 0 1 ((V3 0 1) + (nI 1))
      ((nI 1), V4)
    else
      ((nI 0), T)
set_option maxHeartbeats 4000000 in
set_option maxRecDepth 100000 in
theorem c_X6_store (l : Launch) (D : va_G) (Y : Nat → ClassId) (tx : Nat → Nat) (T : Nat → Nat → Int32) (letter : Int32) (target : Int32) (value : Int32) (least : Int32) (ht : txOK T) : CtI l yX6_store wsX6_store 0 0 D (tyL Y) ([txB Y tx T]) [.ref (tx 0), .int letter, .int target, .int value, .int least] (C6_store T letter target value least).1 ([txB Y tx (C6_store T letter target value least).2]) := by
  refine CtI.intro (own := RX6) (cc := cX6_store) (maxL := 5) rfl (by decide +kernel) rfl (Nat.le_of_ble_eq_true rfl) (fun p e s m args below meth c A Q hA hQ cx hr => ?_)
  have hinX6 : ∀ w ∈ wsX60, w ∈ wsX6_store := by decide +kernel
  have f15 : Cond.fieldLink RX6 15 "FourPhases$Text" "letters" "[I" ∈ wsX6_store := by decide +kernel
  have f18 : Cond.fieldLink RX6 18 "FourPhases$Text" "targets" "[I" ∈ wsX6_store := by decide +kernel
  have f21 : Cond.fieldLink RX6 21 "FourPhases$Text" "values" "[I" ∈ wsX6_store := by decide +kernel
  have f31 : Cond.fieldLink RX6 31 "FourPhases$Text" "orders" "I" ∈ wsX6_store := by decide +kernel
  have ho20 : tN (T 0 1) < 21 := inL ht.2
  refine j_iload_n cx (pc := 0) dX6_store_0 3 rfl ?_
  refine j_iload cx (pc := 1) dX6_store_1 4 rfl ?_
  refine j_icmp_lt cx (pc := 3) (tgt := 15) dX6_store_3 (by decide) (fun c3_1 => ?_) (fun c3_1 => ?_)
  · skip
    refine j_iconst cx (pc := 15) (v := (nI 0)) dX6_store_15 (by decide) ?_
    subst hQ; exact j_zret cx hr rfl (by simp only [C6_store, if_pos c3_1]) (by simp only [C6_store, if_pos c3_1]) hA dX6_store_16
  · skip
    refine j_aload_n cx (pc := 6) dX6_store_6 0 rfl ?_
    refine j_get cx (pc := 7) 0 0 rfl rfl (C := RX6) (T := TX6) (N := 7) rfl hinX6 5 (by decide) f31 rfl (v := .int (T 0 1)) rfl dX6_store_7 ?_
    refine j_top (show (T 0 1) = (nI (tN (T 0 1))) from inN ht.2) ?_
    refine j_bipush cx (pc := 10) (v := (nI 20)) dX6_store_10 (by decide) ?_
    refine j_icmpN_lt cx (pc := 12) (by omega) (by decide) (tgt := 17) dX6_store_12 (by decide) (fun c12_2 => ?_) (fun c12_2 => ?_)
    · skip
      refine j_aload_n cx (pc := 17) dX6_store_17 0 rfl ?_
      refine j_get cx (pc := 18) 0 0 rfl rfl (C := RX6) (T := TX6) (N := 7) rfl hinX6 2 (by decide) f15 rfl (v := .ref (tx 2)) rfl dX6_store_18 ?_
      refine j_aload_n cx (pc := 21) dX6_store_21 0 rfl ?_
      refine j_get cx (pc := 22) 0 0 rfl rfl (C := RX6) (T := TX6) (N := 7) rfl hinX6 5 (by decide) f31 rfl (v := .int (T 0 1)) rfl dX6_store_22 ?_
      refine j_top (show (T 0 1) = (nI (tN (T 0 1))) from inN ht.2) ?_
      refine j_iload_n cx (pc := 25) dX6_store_25 1 rfl ?_
      obtain ⟨V1, hV1⟩ : ∃ z, z = up1 T 2 (tN (T 0 1)) letter := ⟨_, rfl⟩
      have okV1 : txOK V1 := by rw [hV1]; exact ht
      refine j_iast cx (pc := 26) 0 2 0 rfl rfl rfl (by omega) (by decide) (Bs' := [txB Y tx V1]) (by rw [hV1]; rfl) dX6_store_26 ?_
      refine j_aload_n cx (pc := 27) dX6_store_27 0 rfl ?_
      refine j_get cx (pc := 28) 0 0 rfl rfl (C := RX6) (T := TX6) (N := 7) rfl hinX6 3 (by decide) f18 rfl (v := .ref (tx 3)) rfl dX6_store_28 ?_
      refine j_aload_n cx (pc := 31) dX6_store_31 0 rfl ?_
      refine j_get cx (pc := 32) 0 0 rfl rfl (C := RX6) (T := TX6) (N := 7) rfl hinX6 5 (by decide) f31 rfl (v := .int (V1 0 1)) rfl dX6_store_32 ?_
      refine j_top (show (V1 0 1) = (nI (tN (T 0 1))) from (by rw [hV1]; exact inN ht.2)) ?_
      refine j_iload_n cx (pc := 35) dX6_store_35 2 rfl ?_
      obtain ⟨V2, hV2⟩ : ∃ z, z = up1 V1 3 (tN (T 0 1)) target := ⟨_, rfl⟩
      have okV2 : txOK V2 := by rw [hV2]; exact okV1
      refine j_iast cx (pc := 36) 0 3 0 rfl rfl rfl (by omega) (by decide) (Bs' := [txB Y tx V2]) (by rw [hV2]; rfl) dX6_store_36 ?_
      refine j_aload_n cx (pc := 37) dX6_store_37 0 rfl ?_
      refine j_get cx (pc := 38) 0 0 rfl rfl (C := RX6) (T := TX6) (N := 7) rfl hinX6 4 (by decide) f21 rfl (v := .ref (tx 4)) rfl dX6_store_38 ?_
      refine j_aload_n cx (pc := 41) dX6_store_41 0 rfl ?_
      refine j_get cx (pc := 42) 0 0 rfl rfl (C := RX6) (T := TX6) (N := 7) rfl hinX6 5 (by decide) f31 rfl (v := .int (V2 0 1)) rfl dX6_store_42 ?_
      refine j_top (show (V2 0 1) = (nI (tN (T 0 1))) from (by rw [hV2]; rw [hV1]; exact inN ht.2)) ?_
      refine j_iload_n cx (pc := 45) dX6_store_45 3 rfl ?_
      obtain ⟨V3, hV3⟩ : ∃ z, z = up1 V2 4 (tN (T 0 1)) value := ⟨_, rfl⟩
      have okV3 : txOK V3 := by rw [hV3]; exact okV2
      refine j_iast cx (pc := 46) 0 4 0 rfl rfl rfl (by omega) (by decide) (Bs' := [txB Y tx V3]) (by rw [hV3]; rfl) dX6_store_46 ?_
      refine j_aload_n cx (pc := 47) dX6_store_47 0 rfl ?_
      refine j_dup cx (pc := 48) dX6_store_48 rfl ?_
      refine j_get cx (pc := 49) 0 0 rfl rfl (C := RX6) (T := TX6) (N := 7) rfl hinX6 5 (by decide) f31 rfl (v := .int (V3 0 1)) rfl dX6_store_49 ?_
      refine j_iconst cx (pc := 52) (v := (nI 1)) dX6_store_52 (by decide) ?_
      refine j_iadd cx (pc := 53) dX6_store_53 ?_
      obtain ⟨V4, hV4⟩ : ∃ z, z = up1 V3 0 1 ((V3 0 1) + (nI 1)) := ⟨_, rfl⟩
      refine j_put cx (pc := 54) 0 0 rfl rfl (C := RX6) (T := TX6) (N := 7) rfl hinX6 tyX6 tyX6_ok nmX6 5 (by decide) f31 rfl rfl rfl rfl (Nat.le_of_ble_eq_true rfl) (Bs' := [txB Y tx V4]) (by rw [hV4]; rfl) dX6_store_54 ?_
      refine j_iconst cx (pc := 57) (v := (nI 1)) dX6_store_57 (by decide) ?_
      subst hQ; exact j_zret cx hr rfl (by subst hV4; subst hV3; subst hV2; subst hV1; simp only [C6_store, if_neg c3_1, if_pos c12_2]) (by subst hV4; subst hV3; subst hV2; subst hV1; simp only [C6_store, if_neg c3_1, if_pos c12_2]) hA dX6_store_58
    · skip
      refine j_iconst cx (pc := 15) (v := (nI 0)) dX6_store_15 (by decide) ?_
      subst hQ; exact j_zret cx hr rfl (by simp only [C6_store, if_neg c3_1, if_neg (Nat.not_lt.mpr c12_2)]) (by simp only [C6_store, if_neg c3_1, if_neg (Nat.not_lt.mpr c12_2)]) hA dX6_store_16
theorem tx_store {T : Nat → Nat → Int32} {a b x y : Int32} (h : txOK T) : txOK (C6_store T a b x y).2 := by
  unfold C6_store
  split
  · exact h
  · split
    · rename_i c
      refine ⟨h.1, ?_⟩
      show vp_in (T 0 1 + nI 1) 21
      rw [inN h.2, nI_add]
      exact vp_in_nI' (by omega)
    · exact h
theorem bl_store (T : Nat → Nat → Int32) (a b x y : Int32) : (C6_store T a b x y).1 = nI 0 ∨ (C6_store T a b x y).1 = nI 1 := by
  unfold C6_store
  split
  · exact Or.inl rfl
  · split
    · exact Or.inr rfl
    · exact Or.inl rfl
def L6_readNumber (greatest : Int32) : Nat → Nat → Int32 → (Nat → Nat → Int32) → Int32 × (Nat → Nat → Int32)
  | 0, i, number, T0 =>
      (number, T0)
  | q + 1, i, number, T0 =>
      if number = 0 then
        if (C6_digitOf T0 (C6_current T0 )) = 0 then
          if (C6_digitOf T0 (C6_current T0 )) = (-1) then
            (number, T0)
          else
            if (nI 9) < (C6_digitOf T0 (C6_current T0 )) then
              (number, T0)
            else
              (number, T0)
        else
          if (C6_digitOf T0 (C6_current T0 )) = (-1) then
            (number, T0)
          else
            if (nI 9) < (C6_digitOf T0 (C6_current T0 )) then
              (number, T0)
            else
              if ((number * (nI 10)) + (C6_digitOf T0 (C6_current T0 ))) ≤ greatest then
                let V2 := up1 T0 0 2 ((T0 0 2) + (nI 1))
                L6_readNumber greatest q (i + 1) ((number * (nI 10)) + (C6_digitOf T0 (C6_current T0 ))) V2
              else
                (number, T0)
      else
        if (C6_digitOf T0 (C6_current T0 )) = (-1) then
          (number, T0)
        else
          if (nI 9) < (C6_digitOf T0 (C6_current T0 )) then
            (number, T0)
          else
            if ((number * (nI 10)) + (C6_digitOf T0 (C6_current T0 ))) ≤ greatest then
              let V1 := up1 T0 0 2 ((T0 0 2) + (nI 1))
              L6_readNumber greatest q (i + 1) ((number * (nI 10)) + (C6_digitOf T0 (C6_current T0 ))) V1
            else
              (number, T0)
def C6_readNumber (T : Nat → Nat → Int32) (greatest : Int32) : Int32 × (Nat → Nat → Int32) :=
  L6_readNumber greatest (60) 0 (nI 0) T
set_option maxHeartbeats 4000000 in
set_option maxRecDepth 100000 in
theorem c_X6_readNumber (l : Launch) (D : va_G) (Y : Nat → ClassId) (tx : Nat → Nat) (T : Nat → Nat → Int32) (greatest : Int32) (ht : txOK T) : CtI l yX6_readNumber wsX6_readNumber 1 21 D (tyL Y) ([txB Y tx T]) [.ref (tx 0), .int greatest] (C6_readNumber T greatest).1 ([txB Y tx ((C6_readNumber T greatest).2)]) := by
  refine CtI.intro (own := RX6) (cc := cX6_readNumber) (maxL := 6) rfl (by decide +kernel) rfl (Nat.le_of_ble_eq_true rfl) (fun p e s m args below meth c A Q hA hQ cx hr => ?_)
  have hinX6 : ∀ w ∈ wsX60, w ∈ wsX6_readNumber := by decide +kernel
  have f28 : Cond.fieldLink RX6 28 "FourPhases$Text" "place" "I" ∈ wsX6_readNumber := by decide +kernel
  have loop : ∀ (q : Nat) (i : Nat) (number : Int32) (T0 : Nat → Nat → Int32), (i + q = 60) → (txOK T0) → L6_readNumber greatest q i number T0 = C6_readNumber T greatest → J p l e { frames := 1, cells := 0, slots := 0, locals := 21 } s m args below meth c 6 D A 0 0 Q ([txB Y tx T0]) 4 [(3, .int (nI i)), (2, .int number), (0, .ref (tx 0)), (1, .int greatest)] [] := by
    intro q
    induction q with
    | zero =>
      intro i number T0 hq hk hS
      refine j_iload_n cx (pc := 4) dX6_readNumber_4 0 rfl ?_
      refine j_bipush cx (pc := 5) (v := (nI 60)) dX6_readNumber_5 (by decide) ?_
      refine j_icmpN_ge cx (pc := 7) (by omega) (by decide) (tgt := 91) dX6_readNumber_7 (by decide) (fun c7_1 => ?_) (fun c7_1 => by exfalso; omega)
      refine j_iload_n cx (pc := 91) dX6_readNumber_91 1 rfl ?_
      subst hQ; exact j_iret cx hr (by rw [← hS]; simp only [L6_readNumber]) (by rw [← hS]; simp only [L6_readNumber]) hA dX6_readNumber_92
    | succ q ih =>
      intro i number T0 hq hk hS
      refine j_iload_n cx (pc := 4) dX6_readNumber_4 0 rfl ?_
      refine j_bipush cx (pc := 5) (v := (nI 60)) dX6_readNumber_5 (by decide) ?_
      refine j_icmpN_ge cx (pc := 7) (by omega) (by decide) (tgt := 91) dX6_readNumber_7 (by decide) (fun c7_1 => by exfalso; omega) (fun c7_1 => ?_)
      refine j_aload_n cx (pc := 10) dX6_readNumber_10 2 rfl ?_
      refine j_aload_n cx (pc := 11) dX6_readNumber_11 2 rfl ?_
      refine j_calli cx (pc := 12) 0 (c_X6_current l D Y tx T0  hk) gX6_readNumber_X6_current rfl (by decide +kernel) rfl ⟨Nat.le_of_ble_eq_true rfl, Nat.le_of_ble_eq_true rfl⟩ [0] rfl (by decide) (Bs' := [txB Y tx T0]) rfl rfl 0 0 rfl rfl rfl rfl (Nat.le_of_ble_eq_true rfl) dX6_readNumber_12 ⟨Nat.zero_le _, Nat.zero_le _⟩ ?_
      refine j_calli cx (pc := 15) 1 (c_X6_digitOf l D Y tx T0 (C6_current T0 ) ) gX6_readNumber_X6_digitOf rfl (by decide +kernel) rfl ⟨Nat.le_of_ble_eq_true rfl, Nat.le_of_ble_eq_true rfl⟩ [0] rfl (by decide) (Bs' := [txB Y tx T0]) rfl rfl 0 0 rfl rfl rfl rfl (Nat.le_of_ble_eq_true rfl) dX6_readNumber_15 ⟨Nat.zero_le _, Nat.zero_le _⟩ ?_
      refine j_istore cx (pc := 18) (lv' := [(4, .int (C6_digitOf T0 (C6_current T0 ))), (3, .int (nI i)), (2, .int number), (0, .ref (tx 0)), (1, .int greatest)]) dX6_readNumber_18 (by decide) rfl ?_
      refine j_iload_n cx (pc := 20) dX6_readNumber_20 2 rfl ?_
      refine j_if_ne cx (pc := 21) (tgt := 33) dX6_readNumber_21 (by decide) (fun c21_2 => ?_) (fun c21_2 => ?_)
      · skip
        refine j_iconst cx (pc := 33) (v := (nI 0)) dX6_readNumber_33 (by decide) ?_
        refine j_istore cx (pc := 34) (lv' := [(5, .int (nI 0)), (4, .int (C6_digitOf T0 (C6_current T0 ))), (3, .int (nI i)), (2, .int number), (0, .ref (tx 0)), (1, .int greatest)]) dX6_readNumber_34 (by decide) rfl ?_
        refine j_iload cx (pc := 36) dX6_readNumber_36 1 rfl ?_
        refine j_iconst cx (pc := 38) (v := (-1)) dX6_readNumber_38 (by decide) ?_
        refine j_icmp_eq cx (pc := 39) (tgt := 65) dX6_readNumber_39 (by decide) (fun c39_3 => ?_) (fun c39_3 => ?_)
        · skip
          refine j_iload_n cx (pc := 65) dX6_readNumber_65 3 rfl ?_
          subst hQ; exact j_iret cx hr (by rw [← hS]; simp only [L6_readNumber, if_neg c21_2, if_pos c39_3]) (by rw [← hS]; simp only [L6_readNumber, if_neg c21_2, if_pos c39_3]) hA dX6_readNumber_66
        · skip
          refine j_iload cx (pc := 42) dX6_readNumber_42 1 rfl ?_
          refine j_bipush cx (pc := 44) (v := (nI 9)) dX6_readNumber_44 (by decide) ?_
          refine j_icmp_gt cx (pc := 46) (tgt := 65) dX6_readNumber_46 (by decide) (fun c46_4 => ?_) (fun c46_4 => ?_)
          · skip
            refine j_iload_n cx (pc := 65) dX6_readNumber_65 3 rfl ?_
            subst hQ; exact j_iret cx hr (by rw [← hS]; simp only [L6_readNumber, if_neg c21_2, if_neg c39_3, if_pos c46_4]) (by rw [← hS]; simp only [L6_readNumber, if_neg c21_2, if_neg c39_3, if_pos c46_4]) hA dX6_readNumber_66
          · skip
            refine j_iload cx (pc := 49) dX6_readNumber_49 0 rfl ?_
            refine j_ifN_ne cx (pc := 51) (by decide) (tgt := 65) dX6_readNumber_51 (by decide) (fun c51_5 => by exfalso; revert c51_5; decide) (fun c51_5 => ?_)
            refine j_iload_n cx (pc := 54) dX6_readNumber_54 3 rfl ?_
            refine j_bipush cx (pc := 55) (v := (nI 10)) dX6_readNumber_55 (by decide) ?_
            refine j_imul cx (pc := 57) dX6_readNumber_57 ?_
            refine j_iload cx (pc := 58) dX6_readNumber_58 1 rfl ?_
            refine j_iadd cx (pc := 60) dX6_readNumber_60 ?_
            refine j_iload_n cx (pc := 61) dX6_readNumber_61 5 rfl ?_
            refine j_icmp_le cx (pc := 62) (tgt := 67) dX6_readNumber_62 (by decide) (fun c62_6 => ?_) (fun c62_6 => ?_)
            · skip
              refine j_iload_n cx (pc := 67) dX6_readNumber_67 3 rfl ?_
              refine j_bipush cx (pc := 68) (v := (nI 10)) dX6_readNumber_68 (by decide) ?_
              refine j_imul cx (pc := 70) dX6_readNumber_70 ?_
              refine j_iload cx (pc := 71) dX6_readNumber_71 1 rfl ?_
              refine j_iadd cx (pc := 73) dX6_readNumber_73 ?_
              refine j_istore_n cx (pc := 74) (lv' := [(2, .int ((number * (nI 10)) + (C6_digitOf T0 (C6_current T0 )))), (5, .int (nI 0)), (4, .int (C6_digitOf T0 (C6_current T0 ))), (3, .int (nI i)), (0, .ref (tx 0)), (1, .int greatest)]) dX6_readNumber_74 (by decide) rfl ?_
              refine j_aload_n cx (pc := 75) dX6_readNumber_75 4 rfl ?_
              refine j_dup cx (pc := 76) dX6_readNumber_76 rfl ?_
              refine j_get cx (pc := 77) 0 0 rfl rfl (C := RX6) (T := TX6) (N := 7) rfl hinX6 6 (by decide) f28 rfl (v := .int (T0 0 2)) rfl dX6_readNumber_77 ?_
              refine j_iconst cx (pc := 80) (v := (nI 1)) dX6_readNumber_80 (by decide) ?_
              refine j_iadd cx (pc := 81) dX6_readNumber_81 ?_
              obtain ⟨V1, hV1⟩ : ∃ z, z = up1 T0 0 2 ((T0 0 2) + (nI 1)) := ⟨_, rfl⟩
              have okV1 : txOK V1 := by rw [hV1]; exact hk
              refine j_put cx (pc := 82) 0 0 rfl rfl (C := RX6) (T := TX6) (N := 7) rfl hinX6 tyX6 tyX6_ok nmX6 6 (by decide) f28 rfl rfl rfl rfl (Nat.le_of_ble_eq_true rfl) (Bs' := [txB Y tx V1]) (by rw [hV1]; rfl) dX6_readNumber_82 ?_
              refine j_iinc cx (pc := 85) (v := (nI (i + 1))) (lv' := [(3, .int (nI (i + 1))), (2, .int ((number * (nI 10)) + (C6_digitOf T0 (C6_current T0 )))), (5, .int (nI 0)), (4, .int (C6_digitOf T0 (C6_current T0 ))), (0, .ref (tx 0)), (1, .int greatest)]) dX6_readNumber_85 3 rfl (show nI i + nI 1 = nI (i + 1) from nI_add _ _) (by decide) rfl ?_
              refine j_goto cx (pc := 88) (tgt := 4) dX6_readNumber_88 (by decide) ?_
              refine j_lvm (lv' := [(3, .int (nI (i + 1))), (2, .int ((number * (nI 10)) + (C6_digitOf T0 (C6_current T0 )))), (0, .ref (tx 0)), (1, .int greatest)]) (by intro z hz; simp only [List.mem_cons, List.not_mem_nil, or_false] at hz ⊢; rcases hz with rfl | rfl | rfl | rfl <;> simp) ?_
              exact ih (i + 1) ((number * (nI 10)) + (C6_digitOf T0 (C6_current T0 ))) V1 (by omega) okV1 (by subst hV1; rw [← hS]; simp only [L6_readNumber, if_neg c21_2, if_neg c39_3, if_neg c46_4, if_pos c62_6])
            · skip
              refine j_iload_n cx (pc := 65) dX6_readNumber_65 3 rfl ?_
              subst hQ; exact j_iret cx hr (by rw [← hS]; simp only [L6_readNumber, if_neg c21_2, if_neg c39_3, if_neg c46_4, if_neg c62_6]) (by rw [← hS]; simp only [L6_readNumber, if_neg c21_2, if_neg c39_3, if_neg c46_4, if_neg c62_6]) hA dX6_readNumber_66
      · skip
        refine j_iload cx (pc := 24) dX6_readNumber_24 0 rfl ?_
        refine j_if_ne cx (pc := 26) (tgt := 33) dX6_readNumber_26 (by decide) (fun c26_7 => ?_) (fun c26_7 => ?_)
        · skip
          refine j_iconst cx (pc := 33) (v := (nI 0)) dX6_readNumber_33 (by decide) ?_
          refine j_istore cx (pc := 34) (lv' := [(5, .int (nI 0)), (4, .int (C6_digitOf T0 (C6_current T0 ))), (3, .int (nI i)), (2, .int number), (0, .ref (tx 0)), (1, .int greatest)]) dX6_readNumber_34 (by decide) rfl ?_
          refine j_iload cx (pc := 36) dX6_readNumber_36 1 rfl ?_
          refine j_iconst cx (pc := 38) (v := (-1)) dX6_readNumber_38 (by decide) ?_
          refine j_icmp_eq cx (pc := 39) (tgt := 65) dX6_readNumber_39 (by decide) (fun c39_8 => ?_) (fun c39_8 => ?_)
          · skip
            refine j_iload_n cx (pc := 65) dX6_readNumber_65 3 rfl ?_
            subst hQ; exact j_iret cx hr (by rw [← hS]; simp only [L6_readNumber, if_pos c21_2, if_neg c26_7, if_pos c39_8]) (by rw [← hS]; simp only [L6_readNumber, if_pos c21_2, if_neg c26_7, if_pos c39_8]) hA dX6_readNumber_66
          · skip
            refine j_iload cx (pc := 42) dX6_readNumber_42 1 rfl ?_
            refine j_bipush cx (pc := 44) (v := (nI 9)) dX6_readNumber_44 (by decide) ?_
            refine j_icmp_gt cx (pc := 46) (tgt := 65) dX6_readNumber_46 (by decide) (fun c46_9 => ?_) (fun c46_9 => ?_)
            · skip
              refine j_iload_n cx (pc := 65) dX6_readNumber_65 3 rfl ?_
              subst hQ; exact j_iret cx hr (by rw [← hS]; simp only [L6_readNumber, if_pos c21_2, if_neg c26_7, if_neg c39_8, if_pos c46_9]) (by rw [← hS]; simp only [L6_readNumber, if_pos c21_2, if_neg c26_7, if_neg c39_8, if_pos c46_9]) hA dX6_readNumber_66
            · skip
              refine j_iload cx (pc := 49) dX6_readNumber_49 0 rfl ?_
              refine j_ifN_ne cx (pc := 51) (by decide) (tgt := 65) dX6_readNumber_51 (by decide) (fun c51_10 => by exfalso; revert c51_10; decide) (fun c51_10 => ?_)
              refine j_iload_n cx (pc := 54) dX6_readNumber_54 3 rfl ?_
              refine j_bipush cx (pc := 55) (v := (nI 10)) dX6_readNumber_55 (by decide) ?_
              refine j_imul cx (pc := 57) dX6_readNumber_57 ?_
              refine j_iload cx (pc := 58) dX6_readNumber_58 1 rfl ?_
              refine j_iadd cx (pc := 60) dX6_readNumber_60 ?_
              refine j_iload_n cx (pc := 61) dX6_readNumber_61 5 rfl ?_
              refine j_icmp_le cx (pc := 62) (tgt := 67) dX6_readNumber_62 (by decide) (fun c62_11 => ?_) (fun c62_11 => ?_)
              · skip
                refine j_iload_n cx (pc := 67) dX6_readNumber_67 3 rfl ?_
                refine j_bipush cx (pc := 68) (v := (nI 10)) dX6_readNumber_68 (by decide) ?_
                refine j_imul cx (pc := 70) dX6_readNumber_70 ?_
                refine j_iload cx (pc := 71) dX6_readNumber_71 1 rfl ?_
                refine j_iadd cx (pc := 73) dX6_readNumber_73 ?_
                refine j_istore_n cx (pc := 74) (lv' := [(2, .int ((number * (nI 10)) + (C6_digitOf T0 (C6_current T0 )))), (5, .int (nI 0)), (4, .int (C6_digitOf T0 (C6_current T0 ))), (3, .int (nI i)), (0, .ref (tx 0)), (1, .int greatest)]) dX6_readNumber_74 (by decide) rfl ?_
                refine j_aload_n cx (pc := 75) dX6_readNumber_75 4 rfl ?_
                refine j_dup cx (pc := 76) dX6_readNumber_76 rfl ?_
                refine j_get cx (pc := 77) 0 0 rfl rfl (C := RX6) (T := TX6) (N := 7) rfl hinX6 6 (by decide) f28 rfl (v := .int (T0 0 2)) rfl dX6_readNumber_77 ?_
                refine j_iconst cx (pc := 80) (v := (nI 1)) dX6_readNumber_80 (by decide) ?_
                refine j_iadd cx (pc := 81) dX6_readNumber_81 ?_
                obtain ⟨V2, hV2⟩ : ∃ z, z = up1 T0 0 2 ((T0 0 2) + (nI 1)) := ⟨_, rfl⟩
                have okV2 : txOK V2 := by rw [hV2]; exact hk
                refine j_put cx (pc := 82) 0 0 rfl rfl (C := RX6) (T := TX6) (N := 7) rfl hinX6 tyX6 tyX6_ok nmX6 6 (by decide) f28 rfl rfl rfl rfl (Nat.le_of_ble_eq_true rfl) (Bs' := [txB Y tx V2]) (by rw [hV2]; rfl) dX6_readNumber_82 ?_
                refine j_iinc cx (pc := 85) (v := (nI (i + 1))) (lv' := [(3, .int (nI (i + 1))), (2, .int ((number * (nI 10)) + (C6_digitOf T0 (C6_current T0 )))), (5, .int (nI 0)), (4, .int (C6_digitOf T0 (C6_current T0 ))), (0, .ref (tx 0)), (1, .int greatest)]) dX6_readNumber_85 3 rfl (show nI i + nI 1 = nI (i + 1) from nI_add _ _) (by decide) rfl ?_
                refine j_goto cx (pc := 88) (tgt := 4) dX6_readNumber_88 (by decide) ?_
                refine j_lvm (lv' := [(3, .int (nI (i + 1))), (2, .int ((number * (nI 10)) + (C6_digitOf T0 (C6_current T0 )))), (0, .ref (tx 0)), (1, .int greatest)]) (by intro z hz; simp only [List.mem_cons, List.not_mem_nil, or_false] at hz ⊢; rcases hz with rfl | rfl | rfl | rfl <;> simp) ?_
                exact ih (i + 1) ((number * (nI 10)) + (C6_digitOf T0 (C6_current T0 ))) V2 (by omega) okV2 (by subst hV2; rw [← hS]; simp only [L6_readNumber, if_pos c21_2, if_neg c26_7, if_neg c39_8, if_neg c46_9, if_pos c62_11])
              · skip
                refine j_iload_n cx (pc := 65) dX6_readNumber_65 3 rfl ?_
                subst hQ; exact j_iret cx hr (by rw [← hS]; simp only [L6_readNumber, if_pos c21_2, if_neg c26_7, if_neg c39_8, if_neg c46_9, if_neg c62_11]) (by rw [← hS]; simp only [L6_readNumber, if_pos c21_2, if_neg c26_7, if_neg c39_8, if_neg c46_9, if_neg c62_11]) hA dX6_readNumber_66
        · skip
          refine j_iconst cx (pc := 29) (v := (nI 1)) dX6_readNumber_29 (by decide) ?_
          refine j_goto cx (pc := 30) (tgt := 34) dX6_readNumber_30 (by decide) ?_
          refine j_istore cx (pc := 34) (lv' := [(5, .int (nI 1)), (4, .int (C6_digitOf T0 (C6_current T0 ))), (3, .int (nI i)), (2, .int number), (0, .ref (tx 0)), (1, .int greatest)]) dX6_readNumber_34 (by decide) rfl ?_
          refine j_iload cx (pc := 36) dX6_readNumber_36 1 rfl ?_
          refine j_iconst cx (pc := 38) (v := (-1)) dX6_readNumber_38 (by decide) ?_
          refine j_icmp_eq cx (pc := 39) (tgt := 65) dX6_readNumber_39 (by decide) (fun c39_12 => ?_) (fun c39_12 => ?_)
          · skip
            refine j_iload_n cx (pc := 65) dX6_readNumber_65 3 rfl ?_
            subst hQ; exact j_iret cx hr (by rw [← hS]; simp only [L6_readNumber, if_pos c21_2, if_pos c26_7, if_pos c39_12]) (by rw [← hS]; simp only [L6_readNumber, if_pos c21_2, if_pos c26_7, if_pos c39_12]) hA dX6_readNumber_66
          · skip
            refine j_iload cx (pc := 42) dX6_readNumber_42 1 rfl ?_
            refine j_bipush cx (pc := 44) (v := (nI 9)) dX6_readNumber_44 (by decide) ?_
            refine j_icmp_gt cx (pc := 46) (tgt := 65) dX6_readNumber_46 (by decide) (fun c46_13 => ?_) (fun c46_13 => ?_)
            · skip
              refine j_iload_n cx (pc := 65) dX6_readNumber_65 3 rfl ?_
              subst hQ; exact j_iret cx hr (by rw [← hS]; simp only [L6_readNumber, if_pos c21_2, if_pos c26_7, if_neg c39_12, if_pos c46_13]) (by rw [← hS]; simp only [L6_readNumber, if_pos c21_2, if_pos c26_7, if_neg c39_12, if_pos c46_13]) hA dX6_readNumber_66
            · skip
              refine j_iload cx (pc := 49) dX6_readNumber_49 0 rfl ?_
              refine j_ifN_ne cx (pc := 51) (by decide) (tgt := 65) dX6_readNumber_51 (by decide) (fun c51_14 => ?_) (fun c51_14 => by exfalso; revert c51_14; decide)
              refine j_iload_n cx (pc := 65) dX6_readNumber_65 3 rfl ?_
              subst hQ; exact j_iret cx hr (by rw [← hS]; simp only [L6_readNumber, if_pos c21_2, if_pos c26_7, if_neg c39_12, if_neg c46_13]) (by rw [← hS]; simp only [L6_readNumber, if_pos c21_2, if_pos c26_7, if_neg c39_12, if_neg c46_13]) hA dX6_readNumber_66
  refine j_iconst cx (pc := 0) (v := (nI 0)) dX6_readNumber_0 (by decide) ?_
  refine j_istore_n cx (pc := 1) (lv' := [(2, .int (nI 0)), (0, .ref (tx 0)), (1, .int greatest)]) dX6_readNumber_1 (by decide) rfl ?_
  refine j_iconst cx (pc := 2) (v := (nI 0)) dX6_readNumber_2 (by decide) ?_
  refine j_istore_n cx (pc := 3) (lv' := [(3, .int (nI 0)), (2, .int (nI 0)), (0, .ref (tx 0)), (1, .int greatest)]) dX6_readNumber_3 (by decide) rfl ?_
  refine j_lvm (lv' := [(3, .int (nI 0)), (2, .int (nI 0)), (0, .ref (tx 0)), (1, .int greatest)]) (by intro z hz; simp only [List.mem_cons, List.not_mem_nil, or_false] at hz ⊢; rcases hz with rfl | rfl | rfl | rfl <;> simp) ?_
  exact loop (60) 0 (nI 0) T rfl ht (by rfl)
theorem tx_readNumberL {g : Int32} : ∀ (q i : Nat) (n : Int32) (T : Nat → Nat → Int32), txOK T → txOK (L6_readNumber g q i n T).2 := by
  intro q
  induction q with
  | zero => intro i n T h; exact h
  | succ q ih =>
    intro i n T h
    unfold L6_readNumber
    repeat' split
    all_goals first | exact h | exact ih _ _ _ h
theorem tx_readNumber {T : Nat → Nat → Int32} {x : Int32} (h : txOK T) : txOK (C6_readNumber T x).2 := tx_readNumberL 60 0 (nI 0) T h
def C6_readDelay (T : Nat → Nat → Int32) (letter : Int32) : Int32 × (Nat → Nat → Int32) :=
  let V1 := (C6_readDigit T (nI 6)).2
  if ((C6_readDigit T (nI 6)).1) = (-1) then
    ((nI 0), V1)
  else
    let V2 := (C6_readSign V1 (nI 61)).2
    if ((C6_readSign V1 (nI 61)).1) = 0 then
      ((nI 0), V2)
    else
      let V3 := (C6_readNumber V2 (nI 20)).2
      let V4 := (C6_store V3 letter ((C6_readDigit T (nI 6)).1) ((C6_readNumber V2 (nI 20)).1) (nI 1)).2
      (((C6_store V3 letter ((C6_readDigit T (nI 6)).1) ((C6_readNumber V2 (nI 20)).1) (nI 1)).1), V4)
set_option maxHeartbeats 4000000 in
set_option maxRecDepth 100000 in
theorem c_X6_readDelay (l : Launch) (D : va_G) (Y : Nat → ClassId) (tx : Nat → Nat) (T : Nat → Nat → Int32) (letter : Int32) (ht : txOK T) : CtI l yX6_readDelay wsX6_readDelay 2 46 D (tyL Y) ([txB Y tx T]) [.ref (tx 0), .int letter] (C6_readDelay T letter).1 ([txB Y tx (C6_readDelay T letter).2]) := by
  refine CtI.intro (own := RX6) (cc := cX6_readDelay) (maxL := 3) rfl (by decide +kernel) rfl (Nat.le_of_ble_eq_true rfl) (fun p e s m args below meth c A Q hA hQ cx hr => ?_)
  refine j_aload_n cx (pc := 0) dX6_readDelay_0 0 rfl ?_
  refine j_bipush cx (pc := 1) (v := (nI 6)) dX6_readDelay_1 (by decide) ?_
  obtain ⟨V1, hV1⟩ : ∃ z, z = (C6_readDigit T (nI 6)).2 := ⟨_, rfl⟩
  have okV1 : txOK V1 := by rw [hV1]; exact tx_readDigit ht
  refine j_calli cx (pc := 3) 1 (c_X6_readDigit l D Y tx T (nI 6) ht) gX6_readDelay_X6_readDigit rfl (by decide +kernel) rfl ⟨Nat.le_of_ble_eq_true rfl, Nat.le_of_ble_eq_true rfl⟩ [0] rfl (by decide) (Bs' := [txB Y tx V1]) (by rw [hV1]; exact P1_tx T (C6_readDigit T (nI 6)).2) A1_tx 0 0 rfl rfl rfl rfl (Nat.le_of_ble_eq_true rfl) dX6_readDelay_3 ⟨Nat.zero_le _, Nat.zero_le _⟩ ?_
  refine j_istore_n cx (pc := 6) (lv' := [(2, .int ((C6_readDigit T (nI 6)).1)), (0, .ref (tx 0)), (1, .int letter)]) dX6_readDelay_6 (by decide) rfl ?_
  refine j_iload_n cx (pc := 7) dX6_readDelay_7 0 rfl ?_
  refine j_iconst cx (pc := 8) (v := (-1)) dX6_readDelay_8 (by decide) ?_
  refine j_icmp_eq cx (pc := 9) (tgt := 21) dX6_readDelay_9 (by decide) (fun c9_1 => ?_) (fun c9_1 => ?_)
  · skip
    refine j_iconst cx (pc := 21) (v := (nI 0)) dX6_readDelay_21 (by decide) ?_
    subst hQ; exact j_zret cx hr rfl (by subst hV1; simp only [C6_readDelay, if_pos c9_1]) (by subst hV1; simp only [C6_readDelay, if_pos c9_1]) hA dX6_readDelay_22
  · skip
    refine j_aload_n cx (pc := 12) dX6_readDelay_12 1 rfl ?_
    refine j_bipush cx (pc := 13) (v := (nI 61)) dX6_readDelay_13 (by decide) ?_
    obtain ⟨V2, hV2⟩ : ∃ z, z = (C6_readSign V1 (nI 61)).2 := ⟨_, rfl⟩
    have okV2 : txOK V2 := by rw [hV2]; exact tx_readSign okV1
    refine j_calli cx (pc := 15) 1 (c_X6_readSign l D Y tx V1 (nI 61) okV1) gX6_readDelay_X6_readSign rfl (by decide +kernel) rfl ⟨Nat.le_of_ble_eq_true rfl, Nat.le_of_ble_eq_true rfl⟩ [0] rfl (by decide) (Bs' := [txB Y tx V2]) (by rw [hV2]; exact P1_tx V1 (C6_readSign V1 (nI 61)).2) A1_tx 0 0 rfl rfl rfl rfl (Nat.le_of_ble_eq_true rfl) dX6_readDelay_15 ⟨Nat.zero_le _, Nat.zero_le _⟩ ?_
    refine j_if_ne cx (pc := 18) (tgt := 23) dX6_readDelay_18 (by decide) (fun c18_2 => ?_) (fun c18_2 => ?_)
    · skip
      refine j_aload_n cx (pc := 23) dX6_readDelay_23 1 rfl ?_
      refine j_iload_n cx (pc := 24) dX6_readDelay_24 2 rfl ?_
      refine j_iload_n cx (pc := 25) dX6_readDelay_25 0 rfl ?_
      refine j_aload_n cx (pc := 26) dX6_readDelay_26 1 rfl ?_
      refine j_bipush cx (pc := 27) (v := (nI 20)) dX6_readDelay_27 (by decide) ?_
      obtain ⟨V3, hV3⟩ : ∃ z, z = (C6_readNumber V2 (nI 20)).2 := ⟨_, rfl⟩
      have okV3 : txOK V3 := by rw [hV3]; exact tx_readNumber okV2
      refine j_calli cx (pc := 29) 1 (c_X6_readNumber l D Y tx V2 (nI 20) okV2) gX6_readDelay_X6_readNumber rfl (by decide +kernel) rfl ⟨Nat.le_of_ble_eq_true rfl, Nat.le_of_ble_eq_true rfl⟩ [0] rfl (by decide) (Bs' := [txB Y tx V3]) (by rw [hV3]; exact P1_tx V2 (C6_readNumber V2 (nI 20)).2) A1_tx 0 0 rfl rfl rfl rfl (Nat.le_of_ble_eq_true rfl) dX6_readDelay_29 ⟨Nat.zero_le _, Nat.zero_le _⟩ ?_
      refine j_iconst cx (pc := 32) (v := (nI 1)) dX6_readDelay_32 (by decide) ?_
      obtain ⟨V4, hV4⟩ : ∃ z, z = (C6_store V3 letter ((C6_readDigit T (nI 6)).1) ((C6_readNumber V2 (nI 20)).1) (nI 1)).2 := ⟨_, rfl⟩
      have okV4 : txOK V4 := by rw [hV4]; exact tx_store okV3
      refine j_calli cx (pc := 33) 4 (c_X6_store l D Y tx V3 letter ((C6_readDigit T (nI 6)).1) ((C6_readNumber V2 (nI 20)).1) (nI 1) okV3) gX6_readDelay_X6_store rfl (by decide +kernel) rfl ⟨Nat.le_of_ble_eq_true rfl, Nat.le_of_ble_eq_true rfl⟩ [0] rfl (by decide) (Bs' := [txB Y tx V4]) (by rw [hV4]; exact P1_tx V3 (C6_store V3 letter ((C6_readDigit T (nI 6)).1) ((C6_readNumber V2 (nI 20)).1) (nI 1)).2) A1_tx 0 0 rfl rfl rfl rfl (Nat.le_of_ble_eq_true rfl) dX6_readDelay_33 ⟨Nat.zero_le _, Nat.zero_le _⟩ ?_
      subst hQ; exact j_zret cx hr (nb_of (bl_store _ _ _ _ _)) (by subst hV4; subst hV3; subst hV2; subst hV1; simp only [C6_readDelay, if_neg c9_1, if_neg c18_2]) (by subst hV4; subst hV3; subst hV2; subst hV1; simp only [C6_readDelay, if_neg c9_1, if_neg c18_2]) hA dX6_readDelay_36
    · skip
      refine j_iconst cx (pc := 21) (v := (nI 0)) dX6_readDelay_21 (by decide) ?_
      subst hQ; exact j_zret cx hr rfl (by subst hV2; subst hV1; simp only [C6_readDelay, if_neg c9_1, if_pos c18_2]) (by subst hV2; subst hV1; simp only [C6_readDelay, if_neg c9_1, if_pos c18_2]) hA dX6_readDelay_22
theorem tx_readDelay {T : Nat → Nat → Int32} {x : Int32} (h : txOK T) : txOK (C6_readDelay T x).2 := by
  have h1 := tx_readDigit (x := nI 6) h
  have h2 := tx_readSign (x := nI 61) h1
  have h3 := tx_readNumber (x := nI 20) h2
  by_cases c1 : (C6_readDigit T (nI 6)).1 = (-1)
  · rw [C6_readDelay, if_pos c1]; exact h1
  · by_cases c2 : (C6_readSign (C6_readDigit T (nI 6)).2 (nI 61)).1 = 0
    · rw [C6_readDelay, if_neg c1, if_pos c2]; exact h2
    · rw [C6_readDelay, if_neg c1, if_neg c2]; dsimp only; exact tx_store h3
theorem bl_readDelay (T : Nat → Nat → Int32) (x : Int32) : (C6_readDelay T x).1 = nI 0 ∨ (C6_readDelay T x).1 = nI 1 := by
  by_cases c1 : (C6_readDigit T (nI 6)).1 = (-1)
  · rw [C6_readDelay, if_pos c1]; exact Or.inl rfl
  · by_cases c2 : (C6_readSign (C6_readDigit T (nI 6)).2 (nI 61)).1 = 0
    · rw [C6_readDelay, if_neg c1, if_pos c2]; exact Or.inl rfl
    · rw [C6_readDelay, if_neg c1, if_neg c2]; dsimp only; exact bl_store _ _ _ _ _
def C6_readOrder (T : Nat → Nat → Int32)  : Int32 × (Nat → Nat → Int32) :=
  if (C6_current T ) = nI 46 then
    let V1 := up1 T 0 2 ((T 0 2) + (nI 1))
    let V2 := (C6_readNumber V1 (nI 99)).2
    let V3 := (C6_store V2 (C6_current T ) (nI 0) ((C6_readNumber V1 (nI 99)).1) (nI 1)).2
    (((C6_store V2 (C6_current T ) (nI 0) ((C6_readNumber V1 (nI 99)).1) (nI 1)).1), V3)
  else
    if (C6_current T ) = nI 97 then
      let V4 := up1 T 0 2 ((T 0 2) + (nI 1))
      let V5 := (C6_readDigit V4 (nI 15)).2
      let V6 := (C6_store V5 (C6_current T ) (nI 0) ((C6_readDigit V4 (nI 15)).1) (nI 0)).2
      (((C6_store V5 (C6_current T ) (nI 0) ((C6_readDigit V4 (nI 15)).1) (nI 0)).1), V6)
    else
      if (C6_current T ) = nI 98 then
        let V7 := up1 T 0 2 ((T 0 2) + (nI 1))
        let V8 := (C6_readDigit V7 (nI 15)).2
        let V9 := (C6_store V8 (C6_current T ) (nI 0) ((C6_readDigit V7 (nI 15)).1) (nI 0)).2
        (((C6_store V8 (C6_current T ) (nI 0) ((C6_readDigit V7 (nI 15)).1) (nI 0)).1), V9)
      else
        if (C6_current T ) = nI 100 then
          let V10 := up1 T 0 2 ((T 0 2) + (nI 1))
          let V11 := (C6_readDelay V10 (C6_current T )).2
          (((C6_readDelay V10 (C6_current T )).1), V11)
        else
          if (C6_current T ) = nI 107 then
            let V12 := up1 T 0 2 ((T 0 2) + (nI 1))
            let V13 := (C6_readDelay V12 (C6_current T )).2
            (((C6_readDelay V12 (C6_current T )).1), V13)
          else
            if (C6_current T ) = nI 114 then
              let V14 := up1 T 0 2 ((T 0 2) + (nI 1))
              let V15 := (C6_readDelay V14 (C6_current T )).2
              (((C6_readDelay V14 (C6_current T )).1), V15)
            else
              ((nI 0), T)
set_option maxHeartbeats 4000000 in
set_option maxRecDepth 100000 in
theorem c_X6_readOrder (l : Launch) (D : va_G) (Y : Nat → ClassId) (tx : Nat → Nat) (T : Nat → Nat → Int32)  (ht : txOK T) : CtI l yX6_readOrder wsX6_readOrder 3 68 D (tyL Y) ([txB Y tx T]) [.ref (tx 0)] (C6_readOrder T ).1 ([txB Y tx (C6_readOrder T ).2]) := by
  refine CtI.intro (own := RX6) (cc := cX6_readOrder) (maxL := 2) rfl (by decide +kernel) rfl (Nat.le_of_ble_eq_true rfl) (fun p e s m args below meth c A Q hA hQ cx hr => ?_)
  have hinX6 : ∀ w ∈ wsX60, w ∈ wsX6_readOrder := by decide +kernel
  have f28 : Cond.fieldLink RX6 28 "FourPhases$Text" "place" "I" ∈ wsX6_readOrder := by decide +kernel
  refine j_aload_n cx (pc := 0) dX6_readOrder_0 0 rfl ?_
  refine j_calli cx (pc := 1) 0 (c_X6_current l D Y tx T  ht) gX6_readOrder_X6_current rfl (by decide +kernel) rfl ⟨Nat.le_of_ble_eq_true rfl, Nat.le_of_ble_eq_true rfl⟩ [0] rfl (by decide) (Bs' := [txB Y tx T]) rfl rfl 0 0 rfl rfl rfl rfl (Nat.le_of_ble_eq_true rfl) dX6_readOrder_1 ⟨Nat.zero_le _, Nat.zero_le _⟩ ?_
  refine j_istore_n cx (pc := 4) (lv' := [(1, .int (C6_current T )), (0, .ref (tx 0))]) dX6_readOrder_4 (by decide) rfl ?_
  refine j_iload_n cx (pc := 5) dX6_readOrder_5 0 rfl ?_
  by_cases s6_1 : (C6_current T ) = nI 46
  · skip
    refine j_lookup cx (pc := 6) dX6_readOrder_6 (by decide) (off := 82) (by rw [s6_1]; decide) (tgt := 88) (by decide) ?_
    refine j_aload_n cx (pc := 88) dX6_readOrder_88 1 rfl ?_
    refine j_dup cx (pc := 89) dX6_readOrder_89 rfl ?_
    refine j_get cx (pc := 90) 0 0 rfl rfl (C := RX6) (T := TX6) (N := 7) rfl hinX6 6 (by decide) f28 rfl (v := .int (T 0 2)) rfl dX6_readOrder_90 ?_
    refine j_iconst cx (pc := 93) (v := (nI 1)) dX6_readOrder_93 (by decide) ?_
    refine j_iadd cx (pc := 94) dX6_readOrder_94 ?_
    obtain ⟨V1, hV1⟩ : ∃ z, z = up1 T 0 2 ((T 0 2) + (nI 1)) := ⟨_, rfl⟩
    have okV1 : txOK V1 := by rw [hV1]; exact ht
    refine j_put cx (pc := 95) 0 0 rfl rfl (C := RX6) (T := TX6) (N := 7) rfl hinX6 tyX6 tyX6_ok nmX6 6 (by decide) f28 rfl rfl rfl rfl (Nat.le_of_ble_eq_true rfl) (Bs' := [txB Y tx V1]) (by rw [hV1]; rfl) dX6_readOrder_95 ?_
    refine j_aload_n cx (pc := 98) dX6_readOrder_98 1 rfl ?_
    refine j_iload_n cx (pc := 99) dX6_readOrder_99 0 rfl ?_
    refine j_iconst cx (pc := 100) (v := (nI 0)) dX6_readOrder_100 (by decide) ?_
    refine j_aload_n cx (pc := 101) dX6_readOrder_101 1 rfl ?_
    refine j_bipush cx (pc := 102) (v := (nI 99)) dX6_readOrder_102 (by decide) ?_
    obtain ⟨V2, hV2⟩ : ∃ z, z = (C6_readNumber V1 (nI 99)).2 := ⟨_, rfl⟩
    have okV2 : txOK V2 := by rw [hV2]; exact tx_readNumber okV1
    refine j_calli cx (pc := 104) 1 (c_X6_readNumber l D Y tx V1 (nI 99) okV1) gX6_readOrder_X6_readNumber rfl (by decide +kernel) rfl ⟨Nat.le_of_ble_eq_true rfl, Nat.le_of_ble_eq_true rfl⟩ [0] rfl (by decide) (Bs' := [txB Y tx V2]) (by rw [hV2]; exact P1_tx V1 (C6_readNumber V1 (nI 99)).2) A1_tx 0 0 rfl rfl rfl rfl (Nat.le_of_ble_eq_true rfl) dX6_readOrder_104 ⟨Nat.zero_le _, Nat.zero_le _⟩ ?_
    refine j_iconst cx (pc := 107) (v := (nI 1)) dX6_readOrder_107 (by decide) ?_
    obtain ⟨V3, hV3⟩ : ∃ z, z = (C6_store V2 (C6_current T ) (nI 0) ((C6_readNumber V1 (nI 99)).1) (nI 1)).2 := ⟨_, rfl⟩
    have okV3 : txOK V3 := by rw [hV3]; exact tx_store okV2
    refine j_calli cx (pc := 108) 4 (c_X6_store l D Y tx V2 (C6_current T ) (nI 0) ((C6_readNumber V1 (nI 99)).1) (nI 1) okV2) gX6_readOrder_X6_store rfl (by decide +kernel) rfl ⟨Nat.le_of_ble_eq_true rfl, Nat.le_of_ble_eq_true rfl⟩ [0] rfl (by decide) (Bs' := [txB Y tx V3]) (by rw [hV3]; exact P1_tx V2 (C6_store V2 (C6_current T ) (nI 0) ((C6_readNumber V1 (nI 99)).1) (nI 1)).2) A1_tx 0 0 rfl rfl rfl rfl (Nat.le_of_ble_eq_true rfl) dX6_readOrder_108 ⟨Nat.zero_le _, Nat.zero_le _⟩ ?_
    subst hQ; exact j_zret cx hr (nb_of (bl_store _ _ _ _ _)) (by subst hV3; subst hV2; subst hV1; simp only [C6_readOrder, if_pos s6_1]) (by subst hV3; subst hV2; subst hV1; simp only [C6_readOrder, if_pos s6_1]) hA dX6_readOrder_111
  by_cases s6_2 : (C6_current T ) = nI 97
  · skip
    refine j_lookup cx (pc := 6) dX6_readOrder_6 (by decide) (off := 58) (by rw [s6_2]; decide) (tgt := 64) (by decide) ?_
    refine j_aload_n cx (pc := 64) dX6_readOrder_64 1 rfl ?_
    refine j_dup cx (pc := 65) dX6_readOrder_65 rfl ?_
    refine j_get cx (pc := 66) 0 0 rfl rfl (C := RX6) (T := TX6) (N := 7) rfl hinX6 6 (by decide) f28 rfl (v := .int (T 0 2)) rfl dX6_readOrder_66 ?_
    refine j_iconst cx (pc := 69) (v := (nI 1)) dX6_readOrder_69 (by decide) ?_
    refine j_iadd cx (pc := 70) dX6_readOrder_70 ?_
    obtain ⟨V4, hV4⟩ : ∃ z, z = up1 T 0 2 ((T 0 2) + (nI 1)) := ⟨_, rfl⟩
    have okV4 : txOK V4 := by rw [hV4]; exact ht
    refine j_put cx (pc := 71) 0 0 rfl rfl (C := RX6) (T := TX6) (N := 7) rfl hinX6 tyX6 tyX6_ok nmX6 6 (by decide) f28 rfl rfl rfl rfl (Nat.le_of_ble_eq_true rfl) (Bs' := [txB Y tx V4]) (by rw [hV4]; rfl) dX6_readOrder_71 ?_
    refine j_aload_n cx (pc := 74) dX6_readOrder_74 1 rfl ?_
    refine j_iload_n cx (pc := 75) dX6_readOrder_75 0 rfl ?_
    refine j_iconst cx (pc := 76) (v := (nI 0)) dX6_readOrder_76 (by decide) ?_
    refine j_aload_n cx (pc := 77) dX6_readOrder_77 1 rfl ?_
    refine j_bipush cx (pc := 78) (v := (nI 15)) dX6_readOrder_78 (by decide) ?_
    obtain ⟨V5, hV5⟩ : ∃ z, z = (C6_readDigit V4 (nI 15)).2 := ⟨_, rfl⟩
    have okV5 : txOK V5 := by rw [hV5]; exact tx_readDigit okV4
    refine j_calli cx (pc := 80) 1 (c_X6_readDigit l D Y tx V4 (nI 15) okV4) gX6_readOrder_X6_readDigit rfl (by decide +kernel) rfl ⟨Nat.le_of_ble_eq_true rfl, Nat.le_of_ble_eq_true rfl⟩ [0] rfl (by decide) (Bs' := [txB Y tx V5]) (by rw [hV5]; exact P1_tx V4 (C6_readDigit V4 (nI 15)).2) A1_tx 0 0 rfl rfl rfl rfl (Nat.le_of_ble_eq_true rfl) dX6_readOrder_80 ⟨Nat.zero_le _, Nat.zero_le _⟩ ?_
    refine j_iconst cx (pc := 83) (v := (nI 0)) dX6_readOrder_83 (by decide) ?_
    obtain ⟨V6, hV6⟩ : ∃ z, z = (C6_store V5 (C6_current T ) (nI 0) ((C6_readDigit V4 (nI 15)).1) (nI 0)).2 := ⟨_, rfl⟩
    have okV6 : txOK V6 := by rw [hV6]; exact tx_store okV5
    refine j_calli cx (pc := 84) 4 (c_X6_store l D Y tx V5 (C6_current T ) (nI 0) ((C6_readDigit V4 (nI 15)).1) (nI 0) okV5) gX6_readOrder_X6_store rfl (by decide +kernel) rfl ⟨Nat.le_of_ble_eq_true rfl, Nat.le_of_ble_eq_true rfl⟩ [0] rfl (by decide) (Bs' := [txB Y tx V6]) (by rw [hV6]; exact P1_tx V5 (C6_store V5 (C6_current T ) (nI 0) ((C6_readDigit V4 (nI 15)).1) (nI 0)).2) A1_tx 0 0 rfl rfl rfl rfl (Nat.le_of_ble_eq_true rfl) dX6_readOrder_84 ⟨Nat.zero_le _, Nat.zero_le _⟩ ?_
    subst hQ; exact j_zret cx hr (nb_of (bl_store _ _ _ _ _)) (by subst hV6; subst hV5; subst hV4; simp only [C6_readOrder, if_neg s6_1, if_pos s6_2]) (by subst hV6; subst hV5; subst hV4; simp only [C6_readOrder, if_neg s6_1, if_pos s6_2]) hA dX6_readOrder_87
  by_cases s6_3 : (C6_current T ) = nI 98
  · skip
    refine j_lookup cx (pc := 6) dX6_readOrder_6 (by decide) (off := 58) (by rw [s6_3]; decide) (tgt := 64) (by decide) ?_
    refine j_aload_n cx (pc := 64) dX6_readOrder_64 1 rfl ?_
    refine j_dup cx (pc := 65) dX6_readOrder_65 rfl ?_
    refine j_get cx (pc := 66) 0 0 rfl rfl (C := RX6) (T := TX6) (N := 7) rfl hinX6 6 (by decide) f28 rfl (v := .int (T 0 2)) rfl dX6_readOrder_66 ?_
    refine j_iconst cx (pc := 69) (v := (nI 1)) dX6_readOrder_69 (by decide) ?_
    refine j_iadd cx (pc := 70) dX6_readOrder_70 ?_
    obtain ⟨V7, hV7⟩ : ∃ z, z = up1 T 0 2 ((T 0 2) + (nI 1)) := ⟨_, rfl⟩
    have okV7 : txOK V7 := by rw [hV7]; exact ht
    refine j_put cx (pc := 71) 0 0 rfl rfl (C := RX6) (T := TX6) (N := 7) rfl hinX6 tyX6 tyX6_ok nmX6 6 (by decide) f28 rfl rfl rfl rfl (Nat.le_of_ble_eq_true rfl) (Bs' := [txB Y tx V7]) (by rw [hV7]; rfl) dX6_readOrder_71 ?_
    refine j_aload_n cx (pc := 74) dX6_readOrder_74 1 rfl ?_
    refine j_iload_n cx (pc := 75) dX6_readOrder_75 0 rfl ?_
    refine j_iconst cx (pc := 76) (v := (nI 0)) dX6_readOrder_76 (by decide) ?_
    refine j_aload_n cx (pc := 77) dX6_readOrder_77 1 rfl ?_
    refine j_bipush cx (pc := 78) (v := (nI 15)) dX6_readOrder_78 (by decide) ?_
    obtain ⟨V8, hV8⟩ : ∃ z, z = (C6_readDigit V7 (nI 15)).2 := ⟨_, rfl⟩
    have okV8 : txOK V8 := by rw [hV8]; exact tx_readDigit okV7
    refine j_calli cx (pc := 80) 1 (c_X6_readDigit l D Y tx V7 (nI 15) okV7) gX6_readOrder_X6_readDigit rfl (by decide +kernel) rfl ⟨Nat.le_of_ble_eq_true rfl, Nat.le_of_ble_eq_true rfl⟩ [0] rfl (by decide) (Bs' := [txB Y tx V8]) (by rw [hV8]; exact P1_tx V7 (C6_readDigit V7 (nI 15)).2) A1_tx 0 0 rfl rfl rfl rfl (Nat.le_of_ble_eq_true rfl) dX6_readOrder_80 ⟨Nat.zero_le _, Nat.zero_le _⟩ ?_
    refine j_iconst cx (pc := 83) (v := (nI 0)) dX6_readOrder_83 (by decide) ?_
    obtain ⟨V9, hV9⟩ : ∃ z, z = (C6_store V8 (C6_current T ) (nI 0) ((C6_readDigit V7 (nI 15)).1) (nI 0)).2 := ⟨_, rfl⟩
    have okV9 : txOK V9 := by rw [hV9]; exact tx_store okV8
    refine j_calli cx (pc := 84) 4 (c_X6_store l D Y tx V8 (C6_current T ) (nI 0) ((C6_readDigit V7 (nI 15)).1) (nI 0) okV8) gX6_readOrder_X6_store rfl (by decide +kernel) rfl ⟨Nat.le_of_ble_eq_true rfl, Nat.le_of_ble_eq_true rfl⟩ [0] rfl (by decide) (Bs' := [txB Y tx V9]) (by rw [hV9]; exact P1_tx V8 (C6_store V8 (C6_current T ) (nI 0) ((C6_readDigit V7 (nI 15)).1) (nI 0)).2) A1_tx 0 0 rfl rfl rfl rfl (Nat.le_of_ble_eq_true rfl) dX6_readOrder_84 ⟨Nat.zero_le _, Nat.zero_le _⟩ ?_
    subst hQ; exact j_zret cx hr (nb_of (bl_store _ _ _ _ _)) (by subst hV9; subst hV8; subst hV7; simp only [C6_readOrder, if_neg s6_1, if_neg s6_2, if_pos s6_3]) (by subst hV9; subst hV8; subst hV7; simp only [C6_readOrder, if_neg s6_1, if_neg s6_2, if_pos s6_3]) hA dX6_readOrder_87
  by_cases s6_4 : (C6_current T ) = nI 100
  · skip
    refine j_lookup cx (pc := 6) dX6_readOrder_6 (by decide) (off := 106) (by rw [s6_4]; decide) (tgt := 112) (by decide) ?_
    refine j_aload_n cx (pc := 112) dX6_readOrder_112 1 rfl ?_
    refine j_dup cx (pc := 113) dX6_readOrder_113 rfl ?_
    refine j_get cx (pc := 114) 0 0 rfl rfl (C := RX6) (T := TX6) (N := 7) rfl hinX6 6 (by decide) f28 rfl (v := .int (T 0 2)) rfl dX6_readOrder_114 ?_
    refine j_iconst cx (pc := 117) (v := (nI 1)) dX6_readOrder_117 (by decide) ?_
    refine j_iadd cx (pc := 118) dX6_readOrder_118 ?_
    obtain ⟨V10, hV10⟩ : ∃ z, z = up1 T 0 2 ((T 0 2) + (nI 1)) := ⟨_, rfl⟩
    have okV10 : txOK V10 := by rw [hV10]; exact ht
    refine j_put cx (pc := 119) 0 0 rfl rfl (C := RX6) (T := TX6) (N := 7) rfl hinX6 tyX6 tyX6_ok nmX6 6 (by decide) f28 rfl rfl rfl rfl (Nat.le_of_ble_eq_true rfl) (Bs' := [txB Y tx V10]) (by rw [hV10]; rfl) dX6_readOrder_119 ?_
    refine j_aload_n cx (pc := 122) dX6_readOrder_122 1 rfl ?_
    refine j_iload_n cx (pc := 123) dX6_readOrder_123 0 rfl ?_
    obtain ⟨V11, hV11⟩ : ∃ z, z = (C6_readDelay V10 (C6_current T )).2 := ⟨_, rfl⟩
    have okV11 : txOK V11 := by rw [hV11]; exact tx_readDelay okV10
    refine j_calli cx (pc := 124) 1 (c_X6_readDelay l D Y tx V10 (C6_current T ) okV10) gX6_readOrder_X6_readDelay rfl (by decide +kernel) rfl ⟨Nat.le_of_ble_eq_true rfl, Nat.le_of_ble_eq_true rfl⟩ [0] rfl (by decide) (Bs' := [txB Y tx V11]) (by rw [hV11]; exact P1_tx V10 (C6_readDelay V10 (C6_current T )).2) A1_tx 0 0 rfl rfl rfl rfl (Nat.le_of_ble_eq_true rfl) dX6_readOrder_124 ⟨Nat.zero_le _, Nat.zero_le _⟩ ?_
    subst hQ; exact j_zret cx hr (nb_of (bl_readDelay _ _)) (by subst hV11; subst hV10; simp only [C6_readOrder, if_neg s6_1, if_neg s6_2, if_neg s6_3, if_pos s6_4]) (by subst hV11; subst hV10; simp only [C6_readOrder, if_neg s6_1, if_neg s6_2, if_neg s6_3, if_pos s6_4]) hA dX6_readOrder_127
  by_cases s6_5 : (C6_current T ) = nI 107
  · skip
    refine j_lookup cx (pc := 6) dX6_readOrder_6 (by decide) (off := 106) (by rw [s6_5]; decide) (tgt := 112) (by decide) ?_
    refine j_aload_n cx (pc := 112) dX6_readOrder_112 1 rfl ?_
    refine j_dup cx (pc := 113) dX6_readOrder_113 rfl ?_
    refine j_get cx (pc := 114) 0 0 rfl rfl (C := RX6) (T := TX6) (N := 7) rfl hinX6 6 (by decide) f28 rfl (v := .int (T 0 2)) rfl dX6_readOrder_114 ?_
    refine j_iconst cx (pc := 117) (v := (nI 1)) dX6_readOrder_117 (by decide) ?_
    refine j_iadd cx (pc := 118) dX6_readOrder_118 ?_
    obtain ⟨V12, hV12⟩ : ∃ z, z = up1 T 0 2 ((T 0 2) + (nI 1)) := ⟨_, rfl⟩
    have okV12 : txOK V12 := by rw [hV12]; exact ht
    refine j_put cx (pc := 119) 0 0 rfl rfl (C := RX6) (T := TX6) (N := 7) rfl hinX6 tyX6 tyX6_ok nmX6 6 (by decide) f28 rfl rfl rfl rfl (Nat.le_of_ble_eq_true rfl) (Bs' := [txB Y tx V12]) (by rw [hV12]; rfl) dX6_readOrder_119 ?_
    refine j_aload_n cx (pc := 122) dX6_readOrder_122 1 rfl ?_
    refine j_iload_n cx (pc := 123) dX6_readOrder_123 0 rfl ?_
    obtain ⟨V13, hV13⟩ : ∃ z, z = (C6_readDelay V12 (C6_current T )).2 := ⟨_, rfl⟩
    have okV13 : txOK V13 := by rw [hV13]; exact tx_readDelay okV12
    refine j_calli cx (pc := 124) 1 (c_X6_readDelay l D Y tx V12 (C6_current T ) okV12) gX6_readOrder_X6_readDelay rfl (by decide +kernel) rfl ⟨Nat.le_of_ble_eq_true rfl, Nat.le_of_ble_eq_true rfl⟩ [0] rfl (by decide) (Bs' := [txB Y tx V13]) (by rw [hV13]; exact P1_tx V12 (C6_readDelay V12 (C6_current T )).2) A1_tx 0 0 rfl rfl rfl rfl (Nat.le_of_ble_eq_true rfl) dX6_readOrder_124 ⟨Nat.zero_le _, Nat.zero_le _⟩ ?_
    subst hQ; exact j_zret cx hr (nb_of (bl_readDelay _ _)) (by subst hV13; subst hV12; simp only [C6_readOrder, if_neg s6_1, if_neg s6_2, if_neg s6_3, if_neg s6_4, if_pos s6_5]) (by subst hV13; subst hV12; simp only [C6_readOrder, if_neg s6_1, if_neg s6_2, if_neg s6_3, if_neg s6_4, if_pos s6_5]) hA dX6_readOrder_127
  by_cases s6_6 : (C6_current T ) = nI 114
  · skip
    refine j_lookup cx (pc := 6) dX6_readOrder_6 (by decide) (off := 106) (by rw [s6_6]; decide) (tgt := 112) (by decide) ?_
    refine j_aload_n cx (pc := 112) dX6_readOrder_112 1 rfl ?_
    refine j_dup cx (pc := 113) dX6_readOrder_113 rfl ?_
    refine j_get cx (pc := 114) 0 0 rfl rfl (C := RX6) (T := TX6) (N := 7) rfl hinX6 6 (by decide) f28 rfl (v := .int (T 0 2)) rfl dX6_readOrder_114 ?_
    refine j_iconst cx (pc := 117) (v := (nI 1)) dX6_readOrder_117 (by decide) ?_
    refine j_iadd cx (pc := 118) dX6_readOrder_118 ?_
    obtain ⟨V14, hV14⟩ : ∃ z, z = up1 T 0 2 ((T 0 2) + (nI 1)) := ⟨_, rfl⟩
    have okV14 : txOK V14 := by rw [hV14]; exact ht
    refine j_put cx (pc := 119) 0 0 rfl rfl (C := RX6) (T := TX6) (N := 7) rfl hinX6 tyX6 tyX6_ok nmX6 6 (by decide) f28 rfl rfl rfl rfl (Nat.le_of_ble_eq_true rfl) (Bs' := [txB Y tx V14]) (by rw [hV14]; rfl) dX6_readOrder_119 ?_
    refine j_aload_n cx (pc := 122) dX6_readOrder_122 1 rfl ?_
    refine j_iload_n cx (pc := 123) dX6_readOrder_123 0 rfl ?_
    obtain ⟨V15, hV15⟩ : ∃ z, z = (C6_readDelay V14 (C6_current T )).2 := ⟨_, rfl⟩
    have okV15 : txOK V15 := by rw [hV15]; exact tx_readDelay okV14
    refine j_calli cx (pc := 124) 1 (c_X6_readDelay l D Y tx V14 (C6_current T ) okV14) gX6_readOrder_X6_readDelay rfl (by decide +kernel) rfl ⟨Nat.le_of_ble_eq_true rfl, Nat.le_of_ble_eq_true rfl⟩ [0] rfl (by decide) (Bs' := [txB Y tx V15]) (by rw [hV15]; exact P1_tx V14 (C6_readDelay V14 (C6_current T )).2) A1_tx 0 0 rfl rfl rfl rfl (Nat.le_of_ble_eq_true rfl) dX6_readOrder_124 ⟨Nat.zero_le _, Nat.zero_le _⟩ ?_
    subst hQ; exact j_zret cx hr (nb_of (bl_readDelay _ _)) (by subst hV15; subst hV14; simp only [C6_readOrder, if_neg s6_1, if_neg s6_2, if_neg s6_3, if_neg s6_4, if_neg s6_5, if_pos s6_6]) (by subst hV15; subst hV14; simp only [C6_readOrder, if_neg s6_1, if_neg s6_2, if_neg s6_3, if_neg s6_4, if_neg s6_5, if_pos s6_6]) hA dX6_readOrder_127
  refine j_lookup cx (pc := 6) dX6_readOrder_6 (by decide) (off := 122) (sw_def _ _ _ (by intro q hq; simp only [List.mem_cons, List.not_mem_nil, or_false] at hq; rcases hq with rfl | rfl | rfl | rfl | rfl | rfl; exact ne_toInt (by decide) s6_1; exact ne_toInt (by decide) s6_2; exact ne_toInt (by decide) s6_3; exact ne_toInt (by decide) s6_4; exact ne_toInt (by decide) s6_5; exact ne_toInt (by decide) s6_6)) (tgt := 128) (by decide) ?_
  refine j_iconst cx (pc := 128) (v := (nI 0)) dX6_readOrder_128 (by decide) ?_
  subst hQ; exact j_zret cx hr rfl (by simp only [C6_readOrder, if_neg s6_1, if_neg s6_2, if_neg s6_3, if_neg s6_4, if_neg s6_5, if_neg s6_6]) (by simp only [C6_readOrder, if_neg s6_1, if_neg s6_2, if_neg s6_3, if_neg s6_4, if_neg s6_5, if_neg s6_6]) hA dX6_readOrder_129
theorem tx_up {T : Nat → Nat → Int32} {x : Int32} (h : txOK T) : txOK (up1 T 0 2 x) := h
theorem tx_readOrder {T : Nat → Nat → Int32} (h : txOK T) : txOK (C6_readOrder T).2 := by
  have hu := tx_up (x := T 0 2 + nI 1) h
  rw [C6_readOrder]
  by_cases c1 : C6_current T = nI 46
  · rw [if_pos c1]; dsimp only; exact tx_store (tx_readNumber hu)
  · rw [if_neg c1]
    by_cases c2 : C6_current T = nI 97
    · rw [if_pos c2]; dsimp only; exact tx_store (tx_readDigit hu)
    · rw [if_neg c2]
      by_cases c3 : C6_current T = nI 98
      · rw [if_pos c3]; dsimp only; exact tx_store (tx_readDigit hu)
      · rw [if_neg c3]
        by_cases c4 : C6_current T = nI 100
        · rw [if_pos c4]; dsimp only; exact tx_readDelay hu
        · rw [if_neg c4]
          by_cases c5 : C6_current T = nI 107
          · rw [if_pos c5]; dsimp only; exact tx_readDelay hu
          · rw [if_neg c5]
            by_cases c6 : C6_current T = nI 114
            · rw [if_pos c6]; dsimp only; exact tx_readDelay hu
            · rw [if_neg c6]; exact h
def L6_readOrders  : Nat → Nat → (Nat → Nat → Int32) → Int32 × (Nat → Nat → Int32)
  | 0, i, T0 =>
      ((T0 0 2), T0)
  | q + 1, i, T0 =>
      let V1 := (C6_readOrder T0 ).2
      if ((C6_readOrder T0 ).1) = 0 then
        ((V1 0 2), V1)
      else
        if (V1 0 2) < (V1 0 0) then
          let V2 := (C6_readSign V1 (nI 44)).2
          if ((C6_readSign V1 (nI 44)).1) = 0 then
            ((V2 0 2), V2)
          else
            L6_readOrders q (i + 1) V2
        else
          ((-1), V1)
def C6_readOrders (T : Nat → Nat → Int32)  : Int32 × (Nat → Nat → Int32) :=
  let V1 := up1 T 0 2 (nI 0)
  let V2 := up1 V1 0 1 (nI 0)
  L6_readOrders (21) 0 V2
set_option maxHeartbeats 4000000 in
set_option maxRecDepth 100000 in
theorem c_X6_readOrders (l : Launch) (D : va_G) (Y : Nat → ClassId) (tx : Nat → Nat) (T : Nat → Nat → Int32)  (ht : txOK T) : CtI l yX6_readOrders wsX6_readOrders 4 89 D (tyL Y) ([txB Y tx T]) [.ref (tx 0)] (C6_readOrders T ).1 ([txB Y tx ((C6_readOrders T ).2)]) := by
  refine CtI.intro (own := RX6) (cc := cX6_readOrders) (maxL := 2) rfl (by decide +kernel) rfl (Nat.le_of_ble_eq_true rfl) (fun p e s m args below meth c A Q hA hQ cx hr => ?_)
  have hinX6 : ∀ w ∈ wsX60, w ∈ wsX6_readOrders := by decide +kernel
  have f24 : Cond.fieldLink RX6 24 "FourPhases$Text" "length" "I" ∈ wsX6_readOrders := by decide +kernel
  have f28 : Cond.fieldLink RX6 28 "FourPhases$Text" "place" "I" ∈ wsX6_readOrders := by decide +kernel
  have f31 : Cond.fieldLink RX6 31 "FourPhases$Text" "orders" "I" ∈ wsX6_readOrders := by decide +kernel
  have loop : ∀ (q : Nat) (i : Nat) (T0 : Nat → Nat → Int32), (i + q = 21) → (txOK T0) → L6_readOrders q i T0 = C6_readOrders T  → J p l e { frames := 4, cells := 0, slots := 0, locals := 89 } s m args below meth c 2 D A 0 0 Q ([txB Y tx T0]) 12 [(1, .int (nI i)), (0, .ref (tx 0))] [] := by
    intro q
    induction q with
    | zero =>
      intro i T0 hq hk hS
      refine j_iload_n cx (pc := 12) dX6_readOrders_12 0 rfl ?_
      refine j_bipush cx (pc := 13) (v := (nI 20)) dX6_readOrders_13 (by decide) ?_
      refine j_icmpN_gt cx (pc := 15) (by omega) (by decide) (tgt := 63) dX6_readOrders_15 (by decide) (fun c15_1 => ?_) (fun c15_1 => by exfalso; omega)
      refine j_aload_n cx (pc := 63) dX6_readOrders_63 1 rfl ?_
      refine j_get cx (pc := 64) 0 0 rfl rfl (C := RX6) (T := TX6) (N := 7) rfl hinX6 6 (by decide) f28 rfl (v := .int (T0 0 2)) rfl dX6_readOrders_64 ?_
      subst hQ; exact j_iret cx hr (by rw [← hS]; simp only [L6_readOrders]) (by rw [← hS]; simp only [L6_readOrders]) hA dX6_readOrders_67
    | succ q ih =>
      intro i T0 hq hk hS
      refine j_iload_n cx (pc := 12) dX6_readOrders_12 0 rfl ?_
      refine j_bipush cx (pc := 13) (v := (nI 20)) dX6_readOrders_13 (by decide) ?_
      refine j_icmpN_gt cx (pc := 15) (by omega) (by decide) (tgt := 63) dX6_readOrders_15 (by decide) (fun c15_1 => by exfalso; omega) (fun c15_1 => ?_)
      refine j_aload_n cx (pc := 18) dX6_readOrders_18 1 rfl ?_
      obtain ⟨V1, hV1⟩ : ∃ z, z = (C6_readOrder T0 ).2 := ⟨_, rfl⟩
      have okV1 : txOK V1 := by rw [hV1]; exact tx_readOrder hk
      refine j_calli cx (pc := 19) 0 (c_X6_readOrder l D Y tx T0  hk) gX6_readOrders_X6_readOrder rfl (by decide +kernel) rfl ⟨Nat.le_of_ble_eq_true rfl, Nat.le_of_ble_eq_true rfl⟩ [0] rfl (by decide) (Bs' := [txB Y tx V1]) (by rw [hV1]; exact P1_tx T0 (C6_readOrder T0 ).2) A1_tx 0 0 rfl rfl rfl rfl (Nat.le_of_ble_eq_true rfl) dX6_readOrders_19 ⟨Nat.zero_le _, Nat.zero_le _⟩ ?_
      refine j_if_ne cx (pc := 22) (tgt := 30) dX6_readOrders_22 (by decide) (fun c22_2 => ?_) (fun c22_2 => ?_)
      · skip
        refine j_aload_n cx (pc := 30) dX6_readOrders_30 1 rfl ?_
        refine j_get cx (pc := 31) 0 0 rfl rfl (C := RX6) (T := TX6) (N := 7) rfl hinX6 6 (by decide) f28 rfl (v := .int (V1 0 2)) rfl dX6_readOrders_31 ?_
        refine j_aload_n cx (pc := 34) dX6_readOrders_34 1 rfl ?_
        refine j_get cx (pc := 35) 0 0 rfl rfl (C := RX6) (T := TX6) (N := 7) rfl hinX6 1 (by decide) f24 rfl (v := .int (V1 0 0)) rfl dX6_readOrders_35 ?_
        refine j_icmp_lt cx (pc := 38) (tgt := 43) dX6_readOrders_38 (by decide) (fun c38_3 => ?_) (fun c38_3 => ?_)
        · skip
          refine j_aload_n cx (pc := 43) dX6_readOrders_43 1 rfl ?_
          refine j_bipush cx (pc := 44) (v := (nI 44)) dX6_readOrders_44 (by decide) ?_
          obtain ⟨V2, hV2⟩ : ∃ z, z = (C6_readSign V1 (nI 44)).2 := ⟨_, rfl⟩
          have okV2 : txOK V2 := by rw [hV2]; exact tx_readSign okV1
          refine j_calli cx (pc := 46) 1 (c_X6_readSign l D Y tx V1 (nI 44) okV1) gX6_readOrders_X6_readSign rfl (by decide +kernel) rfl ⟨Nat.le_of_ble_eq_true rfl, Nat.le_of_ble_eq_true rfl⟩ [0] rfl (by decide) (Bs' := [txB Y tx V2]) (by rw [hV2]; exact P1_tx V1 (C6_readSign V1 (nI 44)).2) A1_tx 0 0 rfl rfl rfl rfl (Nat.le_of_ble_eq_true rfl) dX6_readOrders_46 ⟨Nat.zero_le _, Nat.zero_le _⟩ ?_
          refine j_if_ne cx (pc := 49) (tgt := 57) dX6_readOrders_49 (by decide) (fun c49_4 => ?_) (fun c49_4 => ?_)
          · skip
            refine j_iinc cx (pc := 57) (v := (nI (i + 1))) (lv' := [(1, .int (nI (i + 1))), (0, .ref (tx 0))]) dX6_readOrders_57 0 rfl (show nI i + nI 1 = nI (i + 1) from nI_add _ _) (by decide) rfl ?_
            refine j_goto cx (pc := 60) (tgt := 12) dX6_readOrders_60 (by decide) ?_
            refine j_lvm (lv' := [(1, .int (nI (i + 1))), (0, .ref (tx 0))]) (by intro z hz; simp only [List.mem_cons, List.not_mem_nil, or_false] at hz ⊢; rcases hz with rfl | rfl <;> simp) ?_
            exact ih (i + 1) V2 (by omega) okV2 (by subst hV2; subst hV1; rw [← hS]; simp only [L6_readOrders, if_neg c22_2, if_pos c38_3, if_neg c49_4])
          · skip
            refine j_aload_n cx (pc := 52) dX6_readOrders_52 1 rfl ?_
            refine j_get cx (pc := 53) 0 0 rfl rfl (C := RX6) (T := TX6) (N := 7) rfl hinX6 6 (by decide) f28 rfl (v := .int (V2 0 2)) rfl dX6_readOrders_53 ?_
            subst hQ; exact j_iret cx hr (by subst hV2; subst hV1; rw [← hS]; simp only [L6_readOrders, if_neg c22_2, if_pos c38_3, if_pos c49_4]) (by subst hV2; subst hV1; rw [← hS]; simp only [L6_readOrders, if_neg c22_2, if_pos c38_3, if_pos c49_4]) hA dX6_readOrders_56
        · skip
          refine j_iconst cx (pc := 41) (v := (-1)) dX6_readOrders_41 (by decide) ?_
          subst hQ; exact j_iret cx hr (by subst hV1; rw [← hS]; simp only [L6_readOrders, if_neg c22_2, if_neg c38_3]) (by subst hV1; rw [← hS]; simp only [L6_readOrders, if_neg c22_2, if_neg c38_3]) hA dX6_readOrders_42
      · skip
        refine j_aload_n cx (pc := 25) dX6_readOrders_25 1 rfl ?_
        refine j_get cx (pc := 26) 0 0 rfl rfl (C := RX6) (T := TX6) (N := 7) rfl hinX6 6 (by decide) f28 rfl (v := .int (V1 0 2)) rfl dX6_readOrders_26 ?_
        subst hQ; exact j_iret cx hr (by subst hV1; rw [← hS]; simp only [L6_readOrders, if_pos c22_2]) (by subst hV1; rw [← hS]; simp only [L6_readOrders, if_pos c22_2]) hA dX6_readOrders_29
  refine j_aload_n cx (pc := 0) dX6_readOrders_0 0 rfl ?_
  refine j_iconst cx (pc := 1) (v := (nI 0)) dX6_readOrders_1 (by decide) ?_
  obtain ⟨V1, hV1⟩ : ∃ z, z = up1 T 0 2 (nI 0) := ⟨_, rfl⟩
  have okV1 : txOK V1 := by rw [hV1]; exact ht
  refine j_put cx (pc := 2) 0 0 rfl rfl (C := RX6) (T := TX6) (N := 7) rfl hinX6 tyX6 tyX6_ok nmX6 6 (by decide) f28 rfl rfl rfl rfl (Nat.le_of_ble_eq_true rfl) (Bs' := [txB Y tx V1]) (by rw [hV1]; rfl) dX6_readOrders_2 ?_
  refine j_aload_n cx (pc := 5) dX6_readOrders_5 0 rfl ?_
  refine j_iconst cx (pc := 6) (v := (nI 0)) dX6_readOrders_6 (by decide) ?_
  obtain ⟨V2, hV2⟩ : ∃ z, z = up1 V1 0 1 (nI 0) := ⟨_, rfl⟩
  have okV2 : txOK V2 := by rw [hV2]; exact ⟨okV1.1, vp_in_nI' (by decide)⟩
  refine j_put cx (pc := 7) 0 0 rfl rfl (C := RX6) (T := TX6) (N := 7) rfl hinX6 tyX6 tyX6_ok nmX6 5 (by decide) f31 rfl rfl rfl rfl (Nat.le_of_ble_eq_true rfl) (Bs' := [txB Y tx V2]) (by rw [hV2]; rfl) dX6_readOrders_7 ?_
  refine j_iconst cx (pc := 10) (v := (nI 0)) dX6_readOrders_10 (by decide) ?_
  refine j_istore_n cx (pc := 11) (lv' := [(1, .int (nI 0)), (0, .ref (tx 0))]) dX6_readOrders_11 (by decide) rfl ?_
  refine j_lvm (lv' := [(1, .int (nI 0)), (0, .ref (tx 0))]) (by intro z hz; simp only [List.mem_cons, List.not_mem_nil, or_false] at hz ⊢; rcases hz with rfl | rfl <;> simp) ?_
  exact loop (21) 0 V2 rfl okV2 (by subst hV2; subst hV1; rfl)
