abbrev chOK (U : Nat → Nat → Int32) : Prop := vp_in (U 0 0) 64 ∧ vp_in (U 0 1) 65
def C0_firstTime (U : Nat → Nat → Int32)  : Int32 :=
  (U 1 (tN (U 0 0)))
set_option maxHeartbeats 4000000 in
set_option maxRecDepth 100000 in
theorem c_X0_firstTime (l : Launch) (D : va_G) (Y : Nat → ClassId) (a1 a2 a3 : Nat) (U : Nat → Nat → Int32)  (hh : chOK U) : CtI l yX0_firstTime wsX0_firstTime 0 0 D (tyL Y) ([chB (Y 0) a1 a2 a3 (U 0) (U 1) (U 2)]) [.ref a1] (C0_firstTime U ) ([chB (Y 0) a1 a2 a3 (U 0) (U 1) (U 2)]) := by
  refine CtI.intro (own := RX0) (cc := cX0_firstTime) (maxL := 1) rfl (by decide +kernel) rfl (Nat.le_of_ble_eq_true rfl) (fun p e s m args below meth c A Q hA hQ cx hr => ?_)
  have hinX0 : ∀ w ∈ wsX00, w ∈ wsX0_firstTime := by decide +kernel
  have f9 : Cond.fieldLink RX0 9 "FourPhases$Changes" "times" "[I" ∈ wsX0_firstTime := by decide +kernel
  have f18 : Cond.fieldLink RX0 18 "FourPhases$Changes" "head" "I" ∈ wsX0_firstTime := by decide +kernel
  have hlt : tN (U 0 0) < 64 := inL hh.1
  refine j_aload_n cx (pc := 0) dX0_firstTime_0 0 rfl ?_
  refine j_get cx (pc := 1) 0 0 rfl rfl (C := RX0) (T := TX0) (N := 4) rfl hinX0 0 (by decide) f9 rfl (v := .ref a2) rfl dX0_firstTime_1 ?_
  refine j_aload_n cx (pc := 4) dX0_firstTime_4 0 rfl ?_
  refine j_get cx (pc := 5) 0 0 rfl rfl (C := RX0) (T := TX0) (N := 4) rfl hinX0 2 (by decide) f18 rfl (v := .int (U 0 0)) rfl dX0_firstTime_5 ?_
  refine j_top (show (U 0 0) = (nI (tN (U 0 0))) from inN hh.1) ?_
  refine j_iald cx (pc := 8) 0 1 0 rfl rfl rfl (by omega) (by decide) dX0_firstTime_8 ?_
  subst hQ; exact j_iret cx hr (by rfl) rfl hA dX0_firstTime_9
def C0_firstLink (U : Nat → Nat → Int32)  : Int32 :=
  (((U 2 (tN (U 0 0))) / (nI 32)) / (nI 3))
set_option maxHeartbeats 4000000 in
set_option maxRecDepth 100000 in
theorem c_X0_firstLink (l : Launch) (D : va_G) (Y : Nat → ClassId) (a1 a2 a3 : Nat) (U : Nat → Nat → Int32)  (hh : chOK U) : CtI l yX0_firstLink wsX0_firstLink 0 0 D (tyL Y) ([chB (Y 0) a1 a2 a3 (U 0) (U 1) (U 2)]) [.ref a1] (C0_firstLink U ) ([chB (Y 0) a1 a2 a3 (U 0) (U 1) (U 2)]) := by
  refine CtI.intro (own := RX0) (cc := cX0_firstLink) (maxL := 1) rfl (by decide +kernel) rfl (Nat.le_of_ble_eq_true rfl) (fun p e s m args below meth c A Q hA hQ cx hr => ?_)
  have hinX0 : ∀ w ∈ wsX00, w ∈ wsX0_firstLink := by decide +kernel
  have f15 : Cond.fieldLink RX0 15 "FourPhases$Changes" "signals" "[I" ∈ wsX0_firstLink := by decide +kernel
  have f18 : Cond.fieldLink RX0 18 "FourPhases$Changes" "head" "I" ∈ wsX0_firstLink := by decide +kernel
  have hlt : tN (U 0 0) < 64 := inL hh.1
  refine j_aload_n cx (pc := 0) dX0_firstLink_0 0 rfl ?_
  refine j_get cx (pc := 1) 0 0 rfl rfl (C := RX0) (T := TX0) (N := 4) rfl hinX0 1 (by decide) f15 rfl (v := .ref a3) rfl dX0_firstLink_1 ?_
  refine j_aload_n cx (pc := 4) dX0_firstLink_4 0 rfl ?_
  refine j_get cx (pc := 5) 0 0 rfl rfl (C := RX0) (T := TX0) (N := 4) rfl hinX0 2 (by decide) f18 rfl (v := .int (U 0 0)) rfl dX0_firstLink_5 ?_
  refine j_top (show (U 0 0) = (nI (tN (U 0 0))) from inN hh.1) ?_
  refine j_iald cx (pc := 8) 0 2 0 rfl rfl rfl (by omega) (by decide) dX0_firstLink_8 ?_
  refine j_bipush cx (pc := 9) (v := (nI 32)) dX0_firstLink_9 (by decide) ?_
  refine j_idiv cx (pc := 11) (by decide) dX0_firstLink_11 ?_
  refine j_iconst cx (pc := 12) (v := (nI 3)) dX0_firstLink_12 (by decide) ?_
  refine j_idiv cx (pc := 13) (by decide) dX0_firstLink_13 ?_
  subst hQ; exact j_iret cx hr (by rfl) rfl hA dX0_firstLink_14
def C0_firstWire (U : Nat → Nat → Int32)  : Int32 :=
  (((U 2 (tN (U 0 0))) / (nI 32)) - ((U 2 (tN (U 0 0))) / (nI 32)) / (nI 3) * (nI 3))
set_option maxHeartbeats 4000000 in
set_option maxRecDepth 100000 in
theorem c_X0_firstWire (l : Launch) (D : va_G) (Y : Nat → ClassId) (a1 a2 a3 : Nat) (U : Nat → Nat → Int32)  (hh : chOK U) : CtI l yX0_firstWire wsX0_firstWire 0 0 D (tyL Y) ([chB (Y 0) a1 a2 a3 (U 0) (U 1) (U 2)]) [.ref a1] (C0_firstWire U ) ([chB (Y 0) a1 a2 a3 (U 0) (U 1) (U 2)]) := by
  refine CtI.intro (own := RX0) (cc := cX0_firstWire) (maxL := 1) rfl (by decide +kernel) rfl (Nat.le_of_ble_eq_true rfl) (fun p e s m args below meth c A Q hA hQ cx hr => ?_)
  have hinX0 : ∀ w ∈ wsX00, w ∈ wsX0_firstWire := by decide +kernel
  have f15 : Cond.fieldLink RX0 15 "FourPhases$Changes" "signals" "[I" ∈ wsX0_firstWire := by decide +kernel
  have f18 : Cond.fieldLink RX0 18 "FourPhases$Changes" "head" "I" ∈ wsX0_firstWire := by decide +kernel
  have hlt : tN (U 0 0) < 64 := inL hh.1
  refine j_aload_n cx (pc := 0) dX0_firstWire_0 0 rfl ?_
  refine j_get cx (pc := 1) 0 0 rfl rfl (C := RX0) (T := TX0) (N := 4) rfl hinX0 1 (by decide) f15 rfl (v := .ref a3) rfl dX0_firstWire_1 ?_
  refine j_aload_n cx (pc := 4) dX0_firstWire_4 0 rfl ?_
  refine j_get cx (pc := 5) 0 0 rfl rfl (C := RX0) (T := TX0) (N := 4) rfl hinX0 2 (by decide) f18 rfl (v := .int (U 0 0)) rfl dX0_firstWire_5 ?_
  refine j_top (show (U 0 0) = (nI (tN (U 0 0))) from inN hh.1) ?_
  refine j_iald cx (pc := 8) 0 2 0 rfl rfl rfl (by omega) (by decide) dX0_firstWire_8 ?_
  refine j_bipush cx (pc := 9) (v := (nI 32)) dX0_firstWire_9 (by decide) ?_
  refine j_idiv cx (pc := 11) (by decide) dX0_firstWire_11 ?_
  refine j_iconst cx (pc := 12) (v := (nI 3)) dX0_firstWire_12 (by decide) ?_
  refine j_irem cx (pc := 13) (by decide) dX0_firstWire_13 ?_
  subst hQ; exact j_iret cx hr (by rfl) rfl hA dX0_firstWire_14
def C0_firstValue (U : Nat → Nat → Int32)  : Int32 :=
  ((U 2 (tN (U 0 0))) - (U 2 (tN (U 0 0))) / (nI 32) * (nI 32))
set_option maxHeartbeats 4000000 in
set_option maxRecDepth 100000 in
theorem c_X0_firstValue (l : Launch) (D : va_G) (Y : Nat → ClassId) (a1 a2 a3 : Nat) (U : Nat → Nat → Int32)  (hh : chOK U) : CtI l yX0_firstValue wsX0_firstValue 0 0 D (tyL Y) ([chB (Y 0) a1 a2 a3 (U 0) (U 1) (U 2)]) [.ref a1] (C0_firstValue U ) ([chB (Y 0) a1 a2 a3 (U 0) (U 1) (U 2)]) := by
  refine CtI.intro (own := RX0) (cc := cX0_firstValue) (maxL := 1) rfl (by decide +kernel) rfl (Nat.le_of_ble_eq_true rfl) (fun p e s m args below meth c A Q hA hQ cx hr => ?_)
  have hinX0 : ∀ w ∈ wsX00, w ∈ wsX0_firstValue := by decide +kernel
  have f15 : Cond.fieldLink RX0 15 "FourPhases$Changes" "signals" "[I" ∈ wsX0_firstValue := by decide +kernel
  have f18 : Cond.fieldLink RX0 18 "FourPhases$Changes" "head" "I" ∈ wsX0_firstValue := by decide +kernel
  have hlt : tN (U 0 0) < 64 := inL hh.1
  refine j_aload_n cx (pc := 0) dX0_firstValue_0 0 rfl ?_
  refine j_get cx (pc := 1) 0 0 rfl rfl (C := RX0) (T := TX0) (N := 4) rfl hinX0 1 (by decide) f15 rfl (v := .ref a3) rfl dX0_firstValue_1 ?_
  refine j_aload_n cx (pc := 4) dX0_firstValue_4 0 rfl ?_
  refine j_get cx (pc := 5) 0 0 rfl rfl (C := RX0) (T := TX0) (N := 4) rfl hinX0 2 (by decide) f18 rfl (v := .int (U 0 0)) rfl dX0_firstValue_5 ?_
  refine j_top (show (U 0 0) = (nI (tN (U 0 0))) from inN hh.1) ?_
  refine j_iald cx (pc := 8) 0 2 0 rfl rfl rfl (by omega) (by decide) dX0_firstValue_8 ?_
  refine j_bipush cx (pc := 9) (v := (nI 32)) dX0_firstValue_9 (by decide) ?_
  refine j_irem cx (pc := 11) (by decide) dX0_firstValue_11 ?_
  subst hQ; exact j_iret cx hr (by rfl) rfl hA dX0_firstValue_12
def C0_removeFirst (U : Nat → Nat → Int32)  : Nat → Nat → Int32 :=
  if (U 0 1) ≤ 0 then
    U
  else
    let V1 := up1 U 0 0 (nI (((tN (U 0 0)) + 1) % 64))
    let V2 := up1 V1 0 1 ((V1 0 1) - (nI 1))
    V2
set_option maxHeartbeats 4000000 in
set_option maxRecDepth 100000 in
theorem c_X0_removeFirst (l : Launch) (D : va_G) (Y : Nat → ClassId) (a1 a2 a3 : Nat) (U : Nat → Nat → Int32)  (hh : chOK U) : CtV l yX0_removeFirst wsX0_removeFirst 0 0 D (tyL Y) ([chB (Y 0) a1 a2 a3 (U 0) (U 1) (U 2)]) [.ref a1] ([chB (Y 0) a1 a2 a3 ((C0_removeFirst U ) 0) ((C0_removeFirst U ) 1) ((C0_removeFirst U ) 2)]) := by
  refine CtV.intro (own := RX0) (cc := cX0_removeFirst) (maxL := 1) rfl (by decide +kernel) rfl (Nat.le_of_ble_eq_true rfl) (fun p e s m args below meth c A Q hA hQ cx hr => ?_)
  have hinX0 : ∀ w ∈ wsX00, w ∈ wsX0_removeFirst := by decide +kernel
  have f18 : Cond.fieldLink RX0 18 "FourPhases$Changes" "head" "I" ∈ wsX0_removeFirst := by decide +kernel
  have f22 : Cond.fieldLink RX0 22 "FourPhases$Changes" "count" "I" ∈ wsX0_removeFirst := by decide +kernel
  have hlt : tN (U 0 0) < 64 := inL hh.1
  refine j_aload_n cx (pc := 0) dX0_removeFirst_0 0 rfl ?_
  refine j_get cx (pc := 1) 0 0 rfl rfl (C := RX0) (T := TX0) (N := 4) rfl hinX0 3 (by decide) f22 rfl (v := .int (U 0 1)) rfl dX0_removeFirst_1 ?_
  refine j_if_le cx (pc := 4) (tgt := 30) dX0_removeFirst_4 (by decide) (fun c4_1 => ?_) (fun c4_1 => ?_)
  · skip
    subst hQ; exact j_vret cx hr (by simp only [C0_removeFirst, if_pos c4_1]) hA dX0_removeFirst_30
  · skip
    refine j_aload_n cx (pc := 7) dX0_removeFirst_7 0 rfl ?_
    refine j_aload_n cx (pc := 8) dX0_removeFirst_8 0 rfl ?_
    refine j_get cx (pc := 9) 0 0 rfl rfl (C := RX0) (T := TX0) (N := 4) rfl hinX0 2 (by decide) f18 rfl (v := .int (U 0 0)) rfl dX0_removeFirst_9 ?_
    refine j_top (show (U 0 0) = (nI (tN (U 0 0))) from inN hh.1) ?_
    refine j_iconst cx (pc := 12) (v := (nI 1)) dX0_removeFirst_12 (by decide) ?_
    refine j_iaddN cx (pc := 13) dX0_removeFirst_13 ?_
    refine j_bipush cx (pc := 14) (v := (nI 64)) dX0_removeFirst_14 (by decide) ?_
    refine j_iremN cx (pc := 16) (by omega) (by omega) (by omega) dX0_removeFirst_16 ?_
    obtain ⟨V1, hV1⟩ : ∃ z, z = up1 U 0 0 (nI (((tN (U 0 0)) + 1) % 64)) := ⟨_, rfl⟩
    refine j_put cx (pc := 17) 0 0 rfl rfl (C := RX0) (T := TX0) (N := 4) rfl hinX0 tyX0 tyX0_ok nmX0 2 (by decide) f18 rfl rfl rfl rfl (Nat.le_of_ble_eq_true rfl) (Bs' := [chB (Y 0) a1 a2 a3 (V1 0) (V1 1) (V1 2)]) (by rw [hV1]; rfl) dX0_removeFirst_17 ?_
    refine j_aload_n cx (pc := 20) dX0_removeFirst_20 0 rfl ?_
    refine j_dup cx (pc := 21) dX0_removeFirst_21 rfl ?_
    refine j_get cx (pc := 22) 0 0 rfl rfl (C := RX0) (T := TX0) (N := 4) rfl hinX0 3 (by decide) f22 rfl (v := .int (V1 0 1)) rfl dX0_removeFirst_22 ?_
    refine j_iconst cx (pc := 25) (v := (nI 1)) dX0_removeFirst_25 (by decide) ?_
    refine j_isub cx (pc := 26) dX0_removeFirst_26 ?_
    obtain ⟨V2, hV2⟩ : ∃ z, z = up1 V1 0 1 ((V1 0 1) - (nI 1)) := ⟨_, rfl⟩
    refine j_put cx (pc := 27) 0 0 rfl rfl (C := RX0) (T := TX0) (N := 4) rfl hinX0 tyX0 tyX0_ok nmX0 3 (by decide) f22 rfl rfl rfl rfl (Nat.le_of_ble_eq_true rfl) (Bs' := [chB (Y 0) a1 a2 a3 (V2 0) (V2 1) (V2 2)]) (by rw [hV2]; rfl) dX0_removeFirst_27 ?_
    subst hQ; exact j_vret cx hr (by subst hV2; subst hV1; simp only [C0_removeFirst, if_neg c4_1]) hA dX0_removeFirst_30
def C0_copyFrom (U : Nat → Nat → Int32) (W : Nat → Nat → Int32)  : Nat → Nat → Int32 :=
  let V1 := up1 U 0 0 (W 0 0)
  let V2 := up1 V1 0 1 (W 0 1)
  let V3 := setC V2 1 (va_cpy (W 1) (V2 1) 0 0 64)
  let V4 := setC V3 2 (va_cpy (W 2) (V3 2) 0 0 64)
  V4
set_option maxHeartbeats 4000000 in
set_option maxRecDepth 100000 in
theorem c_X0_copyFrom (l : Launch) (D : va_G) (Y : Nat → ClassId) (a1 a2 a3 : Nat) (U : Nat → Nat → Int32) (a1b a2b a3b : Nat) (W : Nat → Nat → Int32)   : CtV l yX0_copyFrom wsX0_copyFrom 1 40 D (tyL Y) ([chB (Y 0) a1 a2 a3 (U 0) (U 1) (U 2)] ++ [chB (Y 0) a1b a2b a3b (W 0) (W 1) (W 2)]) [.ref a1, .ref a1b] ([chB (Y 0) a1 a2 a3 ((C0_copyFrom U W ) 0) ((C0_copyFrom U W ) 1) ((C0_copyFrom U W ) 2)] ++ [chB (Y 0) a1b a2b a3b (W 0) (W 1) (W 2)]) := by
  refine CtV.intro (own := RX0) (cc := cX0_copyFrom) (maxL := 2) rfl (by decide +kernel) rfl (Nat.le_of_ble_eq_true rfl) (fun p e s m args below meth c A Q hA hQ cx hr => ?_)
  have hinX0 : ∀ w ∈ wsX00, w ∈ wsX0_copyFrom := by decide +kernel
  have f9 : Cond.fieldLink RX0 9 "FourPhases$Changes" "times" "[I" ∈ wsX0_copyFrom := by decide +kernel
  have f15 : Cond.fieldLink RX0 15 "FourPhases$Changes" "signals" "[I" ∈ wsX0_copyFrom := by decide +kernel
  have f18 : Cond.fieldLink RX0 18 "FourPhases$Changes" "head" "I" ∈ wsX0_copyFrom := by decide +kernel
  have f22 : Cond.fieldLink RX0 22 "FourPhases$Changes" "count" "I" ∈ wsX0_copyFrom := by decide +kernel
  refine j_aload_n cx (pc := 0) dX0_copyFrom_0 0 rfl ?_
  refine j_aload_n cx (pc := 1) dX0_copyFrom_1 1 rfl ?_
  refine j_get cx (pc := 2) 1 0 rfl rfl (C := RX0) (T := TX0) (N := 4) rfl hinX0 2 (by decide) f18 rfl (v := .int (W 0 0)) rfl dX0_copyFrom_2 ?_
  obtain ⟨V1, hV1⟩ : ∃ z, z = up1 U 0 0 (W 0 0) := ⟨_, rfl⟩
  refine j_put cx (pc := 5) 0 0 rfl rfl (C := RX0) (T := TX0) (N := 4) rfl hinX0 tyX0 tyX0_ok nmX0 2 (by decide) f18 rfl rfl rfl rfl (Nat.le_of_ble_eq_true rfl) (Bs' := [chB (Y 0) a1 a2 a3 (V1 0) (V1 1) (V1 2)] ++ [chB (Y 0) a1b a2b a3b (W 0) (W 1) (W 2)]) (by rw [hV1]; rfl) dX0_copyFrom_5 ?_
  refine j_aload_n cx (pc := 8) dX0_copyFrom_8 0 rfl ?_
  refine j_aload_n cx (pc := 9) dX0_copyFrom_9 1 rfl ?_
  refine j_get cx (pc := 10) 1 0 rfl rfl (C := RX0) (T := TX0) (N := 4) rfl hinX0 3 (by decide) f22 rfl (v := .int (W 0 1)) rfl dX0_copyFrom_10 ?_
  obtain ⟨V2, hV2⟩ : ∃ z, z = up1 V1 0 1 (W 0 1) := ⟨_, rfl⟩
  refine j_put cx (pc := 13) 0 0 rfl rfl (C := RX0) (T := TX0) (N := 4) rfl hinX0 tyX0 tyX0_ok nmX0 3 (by decide) f22 rfl rfl rfl rfl (Nat.le_of_ble_eq_true rfl) (Bs' := [chB (Y 0) a1 a2 a3 (V2 0) (V2 1) (V2 2)] ++ [chB (Y 0) a1b a2b a3b (W 0) (W 1) (W 2)]) (by rw [hV2]; rfl) dX0_copyFrom_13 ?_
  refine j_aload_n cx (pc := 16) dX0_copyFrom_16 1 rfl ?_
  refine j_get cx (pc := 17) 1 0 rfl rfl (C := RX0) (T := TX0) (N := 4) rfl hinX0 0 (by decide) f9 rfl (v := .ref a2b) rfl dX0_copyFrom_17 ?_
  refine j_iconst cx (pc := 20) (v := (nI 0)) dX0_copyFrom_20 (by decide) ?_
  refine j_aload_n cx (pc := 21) dX0_copyFrom_21 0 rfl ?_
  refine j_get cx (pc := 22) 0 0 rfl rfl (C := RX0) (T := TX0) (N := 4) rfl hinX0 0 (by decide) f9 rfl (v := .ref a2) rfl dX0_copyFrom_22 ?_
  refine j_iconst cx (pc := 25) (v := (nI 0)) dX0_copyFrom_25 (by decide) ?_
  refine j_bipush cx (pc := 26) (v := (nI 64)) dX0_copyFrom_26 (by decide) ?_
  obtain ⟨V3, hV3⟩ : ∃ z, z = setC V2 1 (va_cpy (W 1) (V2 1) 0 0 64) := ⟨_, rfl⟩
  refine j_copy cx (pc := 28) (show Cond.methodLink RX0 25 arraycopyName ∈ wsX0_copyFrom from by decide +kernel) (by decide +kernel) (by decide +kernel) (by decide +kernel) 1 1 0 1 0 rfl rfl rfl rfl rfl (by decide) (by decide) (by decide) (by decide) (by decide +kernel) (Bs' := [chB (Y 0) a1 a2 a3 (V3 0) (V3 1) (V3 2)] ++ [chB (Y 0) a1b a2b a3b (W 0) (W 1) (W 2)]) (by rw [hV3]; rfl) dX0_copyFrom_28 ?_
  refine j_aload_n cx (pc := 31) dX0_copyFrom_31 1 rfl ?_
  refine j_get cx (pc := 32) 1 0 rfl rfl (C := RX0) (T := TX0) (N := 4) rfl hinX0 1 (by decide) f15 rfl (v := .ref a3b) rfl dX0_copyFrom_32 ?_
  refine j_iconst cx (pc := 35) (v := (nI 0)) dX0_copyFrom_35 (by decide) ?_
  refine j_aload_n cx (pc := 36) dX0_copyFrom_36 0 rfl ?_
  refine j_get cx (pc := 37) 0 0 rfl rfl (C := RX0) (T := TX0) (N := 4) rfl hinX0 1 (by decide) f15 rfl (v := .ref a3) rfl dX0_copyFrom_37 ?_
  refine j_iconst cx (pc := 40) (v := (nI 0)) dX0_copyFrom_40 (by decide) ?_
  refine j_bipush cx (pc := 41) (v := (nI 64)) dX0_copyFrom_41 (by decide) ?_
  obtain ⟨V4, hV4⟩ : ∃ z, z = setC V3 2 (va_cpy (W 2) (V3 2) 0 0 64) := ⟨_, rfl⟩
  refine j_copy cx (pc := 43) (show Cond.methodLink RX0 25 arraycopyName ∈ wsX0_copyFrom from by decide +kernel) (by decide +kernel) (by decide +kernel) (by decide +kernel) 1 2 0 2 0 rfl rfl rfl rfl rfl (by decide) (by decide) (by decide) (by decide) (by decide +kernel) (Bs' := [chB (Y 0) a1 a2 a3 (V4 0) (V4 1) (V4 2)] ++ [chB (Y 0) a1b a2b a3b (W 0) (W 1) (W 2)]) (by rw [hV4]; rfl) dX0_copyFrom_43 ?_
  subst hQ; exact j_vret cx hr (by subst hV4; subst hV3; subst hV2; subst hV1; rfl) hA dX0_copyFrom_46
def insL (h : Nat) (time : Int32) : Nat → (Nat → Int32) → (Nat → Int32) → (Nat → Int32) × (Nat → Int32) × Nat
  | 0, t, g => (t, g, 0)
  | q + 1, t, g => if (t (((h + (q + 1)) - 1) % 64)) ≤ time then (t, g, q + 1) else insL h time q (upd t ((h + (q + 1)) % 64) (t (((h + (q + 1)) - 1) % 64))) (upd g ((h + (q + 1)) % 64) (g (((h + (q + 1)) - 1) % 64)))
def C0_insF (U : Nat → Nat → Int32) (time : Int32) (link wire : Nat) (value : Int32) (P : (Nat → Int32) × (Nat → Int32) × Nat) : Nat → Nat → Int32 :=
  up1 (setC (setC U 1 (upd P.1 ((tN (U 0 0) + P.2.2) % 64) time)) 2 (upd P.2.1 ((tN (U 0 0) + P.2.2) % 64) (nI (((link * 3) + wire) * 32) + value))) 0 1 (U 0 1 + nI 1)
def C0_insert (U : Nat → Nat → Int32) (time : Int32) (link wire : Nat) (value : Int32) : Nat → Nat → Int32 :=
  if U 0 1 < nI 64 then C0_insF U time link wire value (insL (tN (U 0 0)) time (tN (U 0 1)) (U 1) (U 2)) else U
set_option maxHeartbeats 4000000 in
set_option maxRecDepth 100000 in
theorem c_X0_insert (l : Launch) (D : va_G) (Y : Nat → ClassId) (a1 a2 a3 : Nat) (U : Nat → Nat → Int32) (time : Int32) (link wire : Nat) (value : Int32) (hh : chOK U) : CtV l yX0_insert wsX0_insert 0 0 D (tyL Y) [chB (Y 0) a1 a2 a3 (U 0) (U 1) (U 2)] [.ref a1, .int time, .int (nI link), .int (nI wire), .int value] [chB (Y 0) a1 a2 a3 (C0_insert U time link wire value 0) (C0_insert U time link wire value 1) (C0_insert U time link wire value 2)] := by
  refine CtV.intro (own := RX0) (cc := cX0_insert) (maxL := 8) rfl (by decide +kernel) rfl (Nat.le_of_ble_eq_true rfl) (fun p e s m args below meth c A Q hA hQ cx hr => ?_)
  have hinX0 : ∀ w ∈ wsX00, w ∈ wsX0_insert := by decide +kernel
  have f9 : Cond.fieldLink RX0 9 "FourPhases$Changes" "times" "[I" ∈ wsX0_insert := by decide +kernel
  have f15 : Cond.fieldLink RX0 15 "FourPhases$Changes" "signals" "[I" ∈ wsX0_insert := by decide +kernel
  have f18 : Cond.fieldLink RX0 18 "FourPhases$Changes" "head" "I" ∈ wsX0_insert := by decide +kernel
  have f22 : Cond.fieldLink RX0 22 "FourPhases$Changes" "count" "I" ∈ wsX0_insert := by decide +kernel
  have hlt : tN (U 0 0) < 64 := inL hh.1
  have loop : ∀ (q : Nat) (t g : Nat → Int32), q ≤ 64 → C0_insF U time link wire value (insL (tN (U 0 0)) time q t g) = C0_insert U time link wire value → J p l e { frames := 0, cells := 0, slots := 0, locals := 0 } s m args below meth c 8 D A 0 0 Q [chB (Y 0) a1 a2 a3 (U 0) t g] 16 [(5, .int (nI q)), (0, .ref a1), (1, .int time), (2, .int (nI link)), (3, .int (nI wire)), (4, .int value)] [] := by
    intro q
    induction q with
    | zero =>
      intro t g hq hS
      refine j_iload cx (pc := 16) dX0_insert_16 0 rfl ?_
      refine j_ifN_le cx (pc := 18) (by decide) (tgt := 102) dX0_insert_18 (by decide) (fun c18_1 => ?_) (fun c18_1 => by exfalso; revert c18_1; decide)
      refine j_aload_n cx (pc := 102) dX0_insert_102 1 rfl ?_
      refine j_get cx (pc := 103) 0 0 rfl rfl (C := RX0) (T := TX0) (N := 4) rfl hinX0 2 (by decide) f18 rfl (v := .int (U 0 0)) rfl dX0_insert_103 ?_
      refine j_top (show (U 0 0) = (nI (tN (U 0 0))) from inN hh.1) ?_
      refine j_iload cx (pc := 106) dX0_insert_106 0 rfl ?_
      refine j_iaddN cx (pc := 108) dX0_insert_108 ?_
      refine j_bipush cx (pc := 109) (v := (nI 64)) dX0_insert_109 (by decide) ?_
      refine j_iremN cx (pc := 111) (by omega) (by omega) (by omega) dX0_insert_111 ?_
      refine j_istore cx (pc := 112) (lv' := [(6, .int (nI (((tN (U 0 0)) + 0) % 64))), (5, .int (nI 0)), (0, .ref a1), (1, .int time), (2, .int (nI link)), (3, .int (nI wire)), (4, .int value)]) dX0_insert_112 (by decide) rfl ?_
      refine j_aload_n cx (pc := 114) dX0_insert_114 2 rfl ?_
      refine j_get cx (pc := 115) 0 0 rfl rfl (C := RX0) (T := TX0) (N := 4) rfl hinX0 0 (by decide) f9 rfl (v := .ref a2) rfl dX0_insert_115 ?_
      refine j_iload cx (pc := 118) dX0_insert_118 0 rfl ?_
      refine j_iload_n cx (pc := 120) dX0_insert_120 3 rfl ?_
      obtain ⟨V1, hV1⟩ : ∃ z, z = upd t (((tN (U 0 0)) + 0) % 64) time := ⟨_, rfl⟩
      refine j_iast cx (pc := 121) 0 1 0 rfl rfl rfl (by omega) (by decide) (Bs' := [chB (Y 0) a1 a2 a3 (U 0) V1 g]) (by rw [hV1]; rfl) dX0_insert_121 ?_
      refine j_aload_n cx (pc := 122) dX0_insert_122 2 rfl ?_
      refine j_get cx (pc := 123) 0 0 rfl rfl (C := RX0) (T := TX0) (N := 4) rfl hinX0 1 (by decide) f15 rfl (v := .ref a3) rfl dX0_insert_123 ?_
      refine j_iload cx (pc := 126) dX0_insert_126 0 rfl ?_
      refine j_iload_n cx (pc := 128) dX0_insert_128 4 rfl ?_
      refine j_iconst cx (pc := 129) (v := (nI 3)) dX0_insert_129 (by decide) ?_
      refine j_imulN cx (pc := 130) dX0_insert_130 ?_
      refine j_iload_n cx (pc := 131) dX0_insert_131 5 rfl ?_
      refine j_iaddN cx (pc := 132) dX0_insert_132 ?_
      refine j_bipush cx (pc := 133) (v := (nI 32)) dX0_insert_133 (by decide) ?_
      refine j_imulN cx (pc := 135) dX0_insert_135 ?_
      refine j_iload cx (pc := 136) dX0_insert_136 6 rfl ?_
      refine j_iadd cx (pc := 138) dX0_insert_138 ?_
      obtain ⟨V2, hV2⟩ : ∃ z, z = upd g (((tN (U 0 0)) + 0) % 64) ((nI (((link * 3) + wire) * 32)) + value) := ⟨_, rfl⟩
      refine j_iast cx (pc := 139) 0 2 0 rfl rfl rfl (by omega) (by decide) (Bs' := [chB (Y 0) a1 a2 a3 (U 0) V1 V2]) (by rw [hV2]; rfl) dX0_insert_139 ?_
      refine j_aload_n cx (pc := 140) dX0_insert_140 2 rfl ?_
      refine j_dup cx (pc := 141) dX0_insert_141 rfl ?_
      refine j_get cx (pc := 142) 0 0 rfl rfl (C := RX0) (T := TX0) (N := 4) rfl hinX0 3 (by decide) f22 rfl (v := .int (U 0 1)) rfl dX0_insert_142 ?_
      refine j_iconst cx (pc := 145) (v := (nI 1)) dX0_insert_145 (by decide) ?_
      refine j_iadd cx (pc := 146) dX0_insert_146 ?_
      obtain ⟨V3, hV3⟩ : ∃ z, z = upd (U 0) 1 ((U 0 1) + (nI 1)) := ⟨_, rfl⟩
      refine j_put cx (pc := 147) 0 0 rfl rfl (C := RX0) (T := TX0) (N := 4) rfl hinX0 tyX0 tyX0_ok nmX0 3 (by decide) f22 rfl rfl rfl rfl (Nat.le_of_ble_eq_true rfl) (Bs' := [chB (Y 0) a1 a2 a3 V3 V1 V2]) (by rw [hV3]; rfl) dX0_insert_147 ?_
      subst hQ; exact j_vret cx hr (by subst hV3; subst hV2; subst hV1; rw [← hS]; simp only [insL]; rfl) hA dX0_insert_150
    | succ q ih =>
      intro t g hq hS
      refine j_iload cx (pc := 16) dX0_insert_16 0 rfl ?_
      refine j_ifN_le cx (pc := 18) (by omega) (tgt := 102) dX0_insert_18 (by decide) (fun c18_1 => by exfalso; omega) (fun c18_1 => ?_)
      refine j_aload_n cx (pc := 21) dX0_insert_21 1 rfl ?_
      refine j_get cx (pc := 22) 0 0 rfl rfl (C := RX0) (T := TX0) (N := 4) rfl hinX0 0 (by decide) f9 rfl (v := .ref a2) rfl dX0_insert_22 ?_
      refine j_aload_n cx (pc := 25) dX0_insert_25 1 rfl ?_
      refine j_get cx (pc := 26) 0 0 rfl rfl (C := RX0) (T := TX0) (N := 4) rfl hinX0 2 (by decide) f18 rfl (v := .int (U 0 0)) rfl dX0_insert_26 ?_
      refine j_top (show (U 0 0) = (nI (tN (U 0 0))) from inN hh.1) ?_
      refine j_iload cx (pc := 29) dX0_insert_29 0 rfl ?_
      refine j_iaddN cx (pc := 31) dX0_insert_31 ?_
      refine j_iconst cx (pc := 32) (v := (nI 1)) dX0_insert_32 (by decide) ?_
      refine j_isubN cx (pc := 33) (by omega) dX0_insert_33 ?_
      refine j_bipush cx (pc := 34) (v := (nI 64)) dX0_insert_34 (by decide) ?_
      refine j_iremN cx (pc := 36) (by omega) (by omega) (by omega) dX0_insert_36 ?_
      refine j_iald cx (pc := 37) 0 1 0 rfl rfl rfl (by omega) (by decide) dX0_insert_37 ?_
      refine j_iload_n cx (pc := 38) dX0_insert_38 2 rfl ?_
      refine j_icmp_le cx (pc := 39) (tgt := 102) dX0_insert_39 (by decide) (fun c39_2 => ?_) (fun c39_2 => ?_)
      · skip
        refine j_aload_n cx (pc := 102) dX0_insert_102 1 rfl ?_
        refine j_get cx (pc := 103) 0 0 rfl rfl (C := RX0) (T := TX0) (N := 4) rfl hinX0 2 (by decide) f18 rfl (v := .int (U 0 0)) rfl dX0_insert_103 ?_
        refine j_top (show (U 0 0) = (nI (tN (U 0 0))) from inN hh.1) ?_
        refine j_iload cx (pc := 106) dX0_insert_106 0 rfl ?_
        refine j_iaddN cx (pc := 108) dX0_insert_108 ?_
        refine j_bipush cx (pc := 109) (v := (nI 64)) dX0_insert_109 (by decide) ?_
        refine j_iremN cx (pc := 111) (by omega) (by omega) (by omega) dX0_insert_111 ?_
        refine j_istore cx (pc := 112) (lv' := [(6, .int (nI (((tN (U 0 0)) + (q + 1)) % 64))), (5, .int (nI (q + 1))), (0, .ref a1), (1, .int time), (2, .int (nI link)), (3, .int (nI wire)), (4, .int value)]) dX0_insert_112 (by decide) rfl ?_
        refine j_aload_n cx (pc := 114) dX0_insert_114 2 rfl ?_
        refine j_get cx (pc := 115) 0 0 rfl rfl (C := RX0) (T := TX0) (N := 4) rfl hinX0 0 (by decide) f9 rfl (v := .ref a2) rfl dX0_insert_115 ?_
        refine j_iload cx (pc := 118) dX0_insert_118 0 rfl ?_
        refine j_iload_n cx (pc := 120) dX0_insert_120 3 rfl ?_
        obtain ⟨V1, hV1⟩ : ∃ z, z = upd t (((tN (U 0 0)) + (q + 1)) % 64) time := ⟨_, rfl⟩
        refine j_iast cx (pc := 121) 0 1 0 rfl rfl rfl (by omega) (by decide) (Bs' := [chB (Y 0) a1 a2 a3 (U 0) V1 g]) (by rw [hV1]; rfl) dX0_insert_121 ?_
        refine j_aload_n cx (pc := 122) dX0_insert_122 2 rfl ?_
        refine j_get cx (pc := 123) 0 0 rfl rfl (C := RX0) (T := TX0) (N := 4) rfl hinX0 1 (by decide) f15 rfl (v := .ref a3) rfl dX0_insert_123 ?_
        refine j_iload cx (pc := 126) dX0_insert_126 0 rfl ?_
        refine j_iload_n cx (pc := 128) dX0_insert_128 4 rfl ?_
        refine j_iconst cx (pc := 129) (v := (nI 3)) dX0_insert_129 (by decide) ?_
        refine j_imulN cx (pc := 130) dX0_insert_130 ?_
        refine j_iload_n cx (pc := 131) dX0_insert_131 5 rfl ?_
        refine j_iaddN cx (pc := 132) dX0_insert_132 ?_
        refine j_bipush cx (pc := 133) (v := (nI 32)) dX0_insert_133 (by decide) ?_
        refine j_imulN cx (pc := 135) dX0_insert_135 ?_
        refine j_iload cx (pc := 136) dX0_insert_136 6 rfl ?_
        refine j_iadd cx (pc := 138) dX0_insert_138 ?_
        obtain ⟨V2, hV2⟩ : ∃ z, z = upd g (((tN (U 0 0)) + (q + 1)) % 64) ((nI (((link * 3) + wire) * 32)) + value) := ⟨_, rfl⟩
        refine j_iast cx (pc := 139) 0 2 0 rfl rfl rfl (by omega) (by decide) (Bs' := [chB (Y 0) a1 a2 a3 (U 0) V1 V2]) (by rw [hV2]; rfl) dX0_insert_139 ?_
        refine j_aload_n cx (pc := 140) dX0_insert_140 2 rfl ?_
        refine j_dup cx (pc := 141) dX0_insert_141 rfl ?_
        refine j_get cx (pc := 142) 0 0 rfl rfl (C := RX0) (T := TX0) (N := 4) rfl hinX0 3 (by decide) f22 rfl (v := .int (U 0 1)) rfl dX0_insert_142 ?_
        refine j_iconst cx (pc := 145) (v := (nI 1)) dX0_insert_145 (by decide) ?_
        refine j_iadd cx (pc := 146) dX0_insert_146 ?_
        obtain ⟨V3, hV3⟩ : ∃ z, z = upd (U 0) 1 ((U 0 1) + (nI 1)) := ⟨_, rfl⟩
        refine j_put cx (pc := 147) 0 0 rfl rfl (C := RX0) (T := TX0) (N := 4) rfl hinX0 tyX0 tyX0_ok nmX0 3 (by decide) f22 rfl rfl rfl rfl (Nat.le_of_ble_eq_true rfl) (Bs' := [chB (Y 0) a1 a2 a3 V3 V1 V2]) (by rw [hV3]; rfl) dX0_insert_147 ?_
        subst hQ; exact j_vret cx hr (by subst hV3; subst hV2; subst hV1; rw [← hS]; simp only [insL, if_pos c39_2]; rfl) hA dX0_insert_150
      · skip
        refine j_aload_n cx (pc := 42) dX0_insert_42 1 rfl ?_
        refine j_get cx (pc := 43) 0 0 rfl rfl (C := RX0) (T := TX0) (N := 4) rfl hinX0 2 (by decide) f18 rfl (v := .int (U 0 0)) rfl dX0_insert_43 ?_
        refine j_top (show (U 0 0) = (nI (tN (U 0 0))) from inN hh.1) ?_
        refine j_iload cx (pc := 46) dX0_insert_46 0 rfl ?_
        refine j_iaddN cx (pc := 48) dX0_insert_48 ?_
        refine j_iconst cx (pc := 49) (v := (nI 1)) dX0_insert_49 (by decide) ?_
        refine j_isubN cx (pc := 50) (by omega) dX0_insert_50 ?_
        refine j_bipush cx (pc := 51) (v := (nI 64)) dX0_insert_51 (by decide) ?_
        refine j_iremN cx (pc := 53) (by omega) (by omega) (by omega) dX0_insert_53 ?_
        refine j_istore cx (pc := 54) (lv' := [(6, .int (nI ((((tN (U 0 0)) + (q + 1)) - 1) % 64))), (5, .int (nI (q + 1))), (0, .ref a1), (1, .int time), (2, .int (nI link)), (3, .int (nI wire)), (4, .int value)]) dX0_insert_54 (by decide) rfl ?_
        refine j_aload_n cx (pc := 56) dX0_insert_56 2 rfl ?_
        refine j_get cx (pc := 57) 0 0 rfl rfl (C := RX0) (T := TX0) (N := 4) rfl hinX0 2 (by decide) f18 rfl (v := .int (U 0 0)) rfl dX0_insert_57 ?_
        refine j_top (show (U 0 0) = (nI (tN (U 0 0))) from inN hh.1) ?_
        refine j_iload cx (pc := 60) dX0_insert_60 1 rfl ?_
        refine j_iaddN cx (pc := 62) dX0_insert_62 ?_
        refine j_bipush cx (pc := 63) (v := (nI 64)) dX0_insert_63 (by decide) ?_
        refine j_iremN cx (pc := 65) (by omega) (by omega) (by omega) dX0_insert_65 ?_
        refine j_istore cx (pc := 66) (lv' := [(7, .int (nI (((tN (U 0 0)) + (q + 1)) % 64))), (6, .int (nI ((((tN (U 0 0)) + (q + 1)) - 1) % 64))), (5, .int (nI (q + 1))), (0, .ref a1), (1, .int time), (2, .int (nI link)), (3, .int (nI wire)), (4, .int value)]) dX0_insert_66 (by decide) rfl ?_
        refine j_aload_n cx (pc := 68) dX0_insert_68 3 rfl ?_
        refine j_get cx (pc := 69) 0 0 rfl rfl (C := RX0) (T := TX0) (N := 4) rfl hinX0 0 (by decide) f9 rfl (v := .ref a2) rfl dX0_insert_69 ?_
        refine j_iload cx (pc := 72) dX0_insert_72 0 rfl ?_
        refine j_aload_n cx (pc := 74) dX0_insert_74 3 rfl ?_
        refine j_get cx (pc := 75) 0 0 rfl rfl (C := RX0) (T := TX0) (N := 4) rfl hinX0 0 (by decide) f9 rfl (v := .ref a2) rfl dX0_insert_75 ?_
        refine j_iload cx (pc := 78) dX0_insert_78 1 rfl ?_
        refine j_iald cx (pc := 80) 0 1 0 rfl rfl rfl (by omega) (by decide) dX0_insert_80 ?_
        obtain ⟨V4, hV4⟩ : ∃ z, z = upd t (((tN (U 0 0)) + (q + 1)) % 64) (t ((((tN (U 0 0)) + (q + 1)) - 1) % 64)) := ⟨_, rfl⟩
        refine j_iast cx (pc := 81) 0 1 0 rfl rfl rfl (by omega) (by decide) (Bs' := [chB (Y 0) a1 a2 a3 (U 0) V4 g]) (by rw [hV4]; rfl) dX0_insert_81 ?_
        refine j_aload_n cx (pc := 82) dX0_insert_82 3 rfl ?_
        refine j_get cx (pc := 83) 0 0 rfl rfl (C := RX0) (T := TX0) (N := 4) rfl hinX0 1 (by decide) f15 rfl (v := .ref a3) rfl dX0_insert_83 ?_
        refine j_iload cx (pc := 86) dX0_insert_86 0 rfl ?_
        refine j_aload_n cx (pc := 88) dX0_insert_88 3 rfl ?_
        refine j_get cx (pc := 89) 0 0 rfl rfl (C := RX0) (T := TX0) (N := 4) rfl hinX0 1 (by decide) f15 rfl (v := .ref a3) rfl dX0_insert_89 ?_
        refine j_iload cx (pc := 92) dX0_insert_92 1 rfl ?_
        refine j_iald cx (pc := 94) 0 2 0 rfl rfl rfl (by omega) (by decide) dX0_insert_94 ?_
        obtain ⟨V5, hV5⟩ : ∃ z, z = upd g (((tN (U 0 0)) + (q + 1)) % 64) (g ((((tN (U 0 0)) + (q + 1)) - 1) % 64)) := ⟨_, rfl⟩
        refine j_iast cx (pc := 95) 0 2 0 rfl rfl rfl (by omega) (by decide) (Bs' := [chB (Y 0) a1 a2 a3 (U 0) V4 V5]) (by rw [hV5]; rfl) dX0_insert_95 ?_
        refine j_iinc cx (pc := 96) (v := (nI q)) (lv' := [(5, .int (nI q)), (7, .int (nI (((tN (U 0 0)) + (q + 1)) % 64))), (6, .int (nI ((((tN (U 0 0)) + (q + 1)) - 1) % 64))), (0, .ref a1), (1, .int time), (2, .int (nI link)), (3, .int (nI wire)), (4, .int value)]) dX0_insert_96 2 rfl (show nI (q + 1) + Int32.ofInt (-1) = nI q from pk_m1 q) (by decide) rfl ?_
        refine j_goto cx (pc := 99) (tgt := 16) dX0_insert_99 (by decide) ?_
        refine j_lvm (lv' := [(5, .int (nI q)), (0, .ref a1), (1, .int time), (2, .int (nI link)), (3, .int (nI wire)), (4, .int value)]) (by intro z hz; simp only [List.mem_cons, List.not_mem_nil, or_false] at hz ⊢; rcases hz with rfl | rfl | rfl | rfl | rfl | rfl <;> simp) ?_
        exact ih V4 V5 (by omega) (by subst hV5; subst hV4; rw [← hS]; simp only [insL, if_neg c39_2])
  refine j_aload_n cx (pc := 0) dX0_insert_0 0 rfl ?_
  refine j_get cx (pc := 1) 0 0 rfl rfl (C := RX0) (T := TX0) (N := 4) rfl hinX0 3 (by decide) f22 rfl (v := .int (U 0 1)) rfl dX0_insert_1 ?_
  refine j_bipush cx (pc := 4) (v := (nI 64)) dX0_insert_4 (by decide) ?_
  refine j_icmp_lt cx (pc := 6) (tgt := 10) dX0_insert_6 (by decide) (fun c6_1 => ?_) (fun c6_1 => ?_)
  · skip
    refine j_aload_n cx (pc := 10) dX0_insert_10 0 rfl ?_
    refine j_get cx (pc := 11) 0 0 rfl rfl (C := RX0) (T := TX0) (N := 4) rfl hinX0 3 (by decide) f22 rfl (v := .int (U 0 1)) rfl dX0_insert_11 ?_
    refine j_top (show (U 0 1) = (nI (tN (U 0 1))) from inN hh.2) ?_
    refine j_istore cx (pc := 14) (lv' := [(5, .int (nI (tN (U 0 1)))), (0, .ref a1), (1, .int time), (2, .int (nI link)), (3, .int (nI wire)), (4, .int value)]) dX0_insert_14 (by decide) rfl ?_
    exact loop (tN (U 0 1)) (U 1) (U 2) (Nat.le_of_lt_succ (inL hh.2)) (by simp only [C0_insert, if_pos c6_1])
  · skip
    subst hQ; exact j_vret cx hr (by simp only [C0_insert, if_neg c6_1]) hA dX0_insert_9
