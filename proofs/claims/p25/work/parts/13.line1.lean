theorem up1_ne {V : Nat → Nat → Int32} {c i c' : Nat} {x : Int32} (h : c' ≠ c) : up1 V c i x c' = V c' := setC_ne h
theorem rwS_ne {V U : Nat → Nat → Int32} {k c : Nat} (h1 : c ≠ 27 + k) (h2 : c ≠ 25 + k) : rwS V k U c = V c := (setC_ne h2).trans (setC_ne h1)
theorem okc_set {V : Nat → Nat → Int32} {c : Nat} {g : Nat → Int32} (h : c ≠ 4) (hh : chOK (chU V)) : chOK (chU (setC V c g)) := by
  have e : chU (setC V c g) 0 = chU V 0 := setC_ne (by show 4 + 0 ≠ c; omega)
  show vp_in (chU (setC V c g) 0 0) 64 ∧ vp_in (chU (setC V c g) 0 1) 65
  rw [e]; exact hh
theorem okc_ch {V U : Nat → Nat → Int32} (h : chOK U) : chOK (chU (chS V U)) := h
theorem vp_in_nI' {n N : Nat} (h : n < N) (hN : N ≤ 2 ^ 31 := by decide) : vp_in (nI n) N := by
  intro q
  rcases q with q | q
  · exact nI_pos (by omega) q
  · rw [nI_clamp (by omega)] at q; omega
theorem ok_insert {U : Nat → Nat → Int32} {time value : Int32} {link wire : Nat} (h : chOK U) : chOK (C0_insert U time link wire value) := by
  unfold C0_insert
  by_cases c : U 0 1 < nI 64
  · rw [if_pos c]
    have e := inN h.2
    have h2 : tN (U 0 1) < 64 := by
      have := inL h.2
      exact (nI_ltI (by omega) (by decide)).mp (by rw [← e]; exact c)
    refine ⟨h.1, ?_⟩
    show vp_in (U 0 1 + nI 1) 65
    rw [e, nI_add]
    exact vp_in_nI' (by omega)
  · rw [if_neg c]; exact h
theorem rw_ok {V : Nat → Nat → Int32} {k : Nat} (h0 : vp_in (V 27 0) 21) (h1 : vp_in (V 28 0) 21) (hk : k < 2) : vp_in (V (27 + k) 0) 21 := by
  match k, hk with
  | 0, _ => exact h0
  | 1, _ => exact h1
theorem ok_rwS {V U : Nat → Nat → Int32} {k : Nat} (h : chOK (chU V)) : chOK (chU (rwS V k U)) := okc_set (by omega) (okc_set (by omega) h)
theorem ok_ntS {V U : Nat → Nat → Int32} (h : chOK (chU V)) : chOK (chU (ntS V U)) := okc_set (by decide) (okc_set (by decide) (okc_set (by decide) (okc_set (by decide) h)))
def C2_hasLink (V : Nat → Nat → Int32) (link : Int32) : Int32 :=
  if link < 0 then
    (nI 0)
  else
    if (V 0 0) < link then
      (nI 0)
    else
      (nI 1)
set_option maxHeartbeats 4000000 in
set_option maxRecDepth 100000 in
theorem c_X2_hasLink (l : Launch) (D : va_G) (Y : Nat → ClassId) (ad : Nat → Nat) (V : Nat → Nat → Int32) (link : Int32)  : CtI l yX2_hasLink wsX2_hasLink 0 0 D (tyL Y) (LB Y ad V) [.ref (ad 0), .int link] (C2_hasLink V link) (LB Y ad V) := by
  refine CtI.intro (own := RX2) (cc := cX2_hasLink) (maxL := 2) rfl (by decide +kernel) rfl (Nat.le_of_ble_eq_true rfl) (fun p e s m args below meth c A Q hA hQ cx hr => ?_)
  have hinX2 : ∀ w ∈ wsX20, w ∈ wsX2_hasLink := by decide +kernel
  have f53 : Cond.fieldLink RX2 53 "FourPhases$Line" "stages" "I" ∈ wsX2_hasLink := by decide +kernel
  refine j_iload_n cx (pc := 0) dX2_hasLink_0 1 rfl ?_
  refine j_if_lt cx (pc := 1) (tgt := 16) dX2_hasLink_1 (by decide) (fun c1_1 => ?_) (fun c1_1 => ?_)
  · skip
    refine j_iconst cx (pc := 16) (v := (nI 0)) dX2_hasLink_16 (by decide) ?_
    subst hQ; exact j_zret cx hr rfl (by simp only [C2_hasLink, if_pos c1_1]) rfl hA dX2_hasLink_17
  · skip
    refine j_iload_n cx (pc := 4) dX2_hasLink_4 1 rfl ?_
    refine j_aload_n cx (pc := 5) dX2_hasLink_5 0 rfl ?_
    refine j_get cx (pc := 6) 0 0 rfl rfl (C := RX2) (T := TX2) (N := 12) rfl hinX2 0 (by decide) f53 rfl (v := .int (V 0 0)) rfl dX2_hasLink_6 ?_
    refine j_icmp_gt cx (pc := 9) (tgt := 16) dX2_hasLink_9 (by decide) (fun c9_2 => ?_) (fun c9_2 => ?_)
    · skip
      refine j_iconst cx (pc := 16) (v := (nI 0)) dX2_hasLink_16 (by decide) ?_
      subst hQ; exact j_zret cx hr rfl (by simp only [C2_hasLink, if_neg c1_1, if_pos c9_2]) rfl hA dX2_hasLink_17
    · skip
      refine j_iconst cx (pc := 12) (v := (nI 1)) dX2_hasLink_12 (by decide) ?_
      refine j_goto cx (pc := 13) (tgt := 17) dX2_hasLink_13 (by decide) ?_
      subst hQ; exact j_zret cx hr rfl (by simp only [C2_hasLink, if_neg c1_1, if_neg c9_2]) rfl hA dX2_hasLink_17
def C2_isQuiet (V : Nat → Nat → Int32)  : Int32 :=
  if (V 4 1) = 0 then
    (nI 1)
  else
    (nI 0)
set_option maxHeartbeats 4000000 in
set_option maxRecDepth 100000 in
theorem c_X2_isQuiet (l : Launch) (D : va_G) (Y : Nat → ClassId) (ad : Nat → Nat) (V : Nat → Nat → Int32)   : CtI l yX2_isQuiet wsX2_isQuiet 0 0 D (tyL Y) (LB Y ad V) [.ref (ad 0)] (C2_isQuiet V ) (LB Y ad V) := by
  refine CtI.intro (own := RX2) (cc := cX2_isQuiet) (maxL := 1) rfl (by decide +kernel) rfl (Nat.le_of_ble_eq_true rfl) (fun p e s m args below meth c A Q hA hQ cx hr => ?_)
  have hinX0 : ∀ w ∈ wsX00, w ∈ wsX2_isQuiet := by decide +kernel
  have hinX2 : ∀ w ∈ wsX20, w ∈ wsX2_isQuiet := by decide +kernel
  have f33 : Cond.fieldLink RX2 33 "FourPhases$Line" "underWay" "LFourPhases$Changes;" ∈ wsX2_isQuiet := by decide +kernel
  have f75 : Cond.fieldLink RX2 75 "FourPhases$Changes" "count" "I" ∈ wsX2_isQuiet := by decide +kernel
  refine j_aload_n cx (pc := 0) dX2_isQuiet_0 0 rfl ?_
  refine j_get cx (pc := 1) 0 0 rfl rfl (C := RX2) (T := TX2) (N := 12) rfl hinX2 9 (by decide) f33 rfl (v := .ref (ad 5)) rfl dX2_isQuiet_1 ?_
  refine j_get cx (pc := 4) 1 0 rfl rfl (C := RX0) (T := TX0) (N := 4) rfl hinX0 3 (by decide) f75 rfl (v := .int (V 4 1)) rfl dX2_isQuiet_4 ?_
  refine j_if_ne cx (pc := 7) (tgt := 14) dX2_isQuiet_7 (by decide) (fun c7_1 => ?_) (fun c7_1 => ?_)
  · skip
    refine j_iconst cx (pc := 14) (v := (nI 0)) dX2_isQuiet_14 (by decide) ?_
    subst hQ; exact j_zret cx hr rfl (by simp only [C2_isQuiet, if_neg c7_1]) rfl hA dX2_isQuiet_15
  · skip
    refine j_iconst cx (pc := 10) (v := (nI 1)) dX2_isQuiet_10 (by decide) ?_
    refine j_goto cx (pc := 11) (tgt := 15) dX2_isQuiet_11 (by decide) ?_
    subst hQ; exact j_zret cx hr rfl (by simp only [C2_isQuiet, if_pos c7_1]) rfl hA dX2_isQuiet_15
def C2_waitingWords (V : Nat → Nat → Int32)  : Int32 :=
  ((V 27 0) + (V 28 0))
set_option maxHeartbeats 4000000 in
set_option maxRecDepth 100000 in
theorem c_X2_waitingWords (l : Launch) (D : va_G) (Y : Nat → ClassId) (ad : Nat → Nat) (V : Nat → Nat → Int32)   : CtI l yX2_waitingWords wsX2_waitingWords 0 0 D (tyL Y) (LB Y ad V) [.ref (ad 0)] (C2_waitingWords V ) (LB Y ad V) := by
  refine CtI.intro (own := RX2) (cc := cX2_waitingWords) (maxL := 1) rfl (by decide +kernel) rfl (Nat.le_of_ble_eq_true rfl) (fun p e s m args below meth c A Q hA hQ cx hr => ?_)
  have hinX2 : ∀ w ∈ wsX20, w ∈ wsX2_waitingWords := by decide +kernel
  have hinX5 : ∀ w ∈ wsX50, w ∈ wsX2_waitingWords := by decide +kernel
  have f26 : Cond.fieldLink RX2 26 "FourPhases$Line" "rows" "[LFourPhases$Row;" ∈ wsX2_waitingWords := by decide +kernel
  have f72 : Cond.fieldLink RX2 72 "FourPhases$Row" "count" "I" ∈ wsX2_waitingWords := by decide +kernel
  refine j_aload_n cx (pc := 0) dX2_waitingWords_0 0 rfl ?_
  refine j_get cx (pc := 1) 0 0 rfl rfl (C := RX2) (T := TX2) (N := 12) rfl hinX2 8 (by decide) f26 rfl (v := .ref (ad 4)) rfl dX2_waitingWords_1 ?_
  refine j_iconst cx (pc := 4) (v := (nI 0)) dX2_waitingWords_4 (by decide) ?_
  refine j_aald cx (pc := 5) 0 4 4 rfl rfl rfl (by decide) (by decide) (a' := (ad 27)) rfl dX2_waitingWords_5 ?_
  refine j_get cx (pc := 6) 10 0 rfl rfl (C := RX5) (T := TX5) (N := 2) rfl hinX5 1 (by decide) f72 rfl (v := .int (V 27 0)) rfl dX2_waitingWords_6 ?_
  refine j_aload_n cx (pc := 9) dX2_waitingWords_9 0 rfl ?_
  refine j_get cx (pc := 10) 0 0 rfl rfl (C := RX2) (T := TX2) (N := 12) rfl hinX2 8 (by decide) f26 rfl (v := .ref (ad 4)) rfl dX2_waitingWords_10 ?_
  refine j_iconst cx (pc := 13) (v := (nI 1)) dX2_waitingWords_13 (by decide) ?_
  refine j_aald cx (pc := 14) 0 4 4 rfl rfl rfl (by decide) (by decide) (a' := (ad 29)) rfl dX2_waitingWords_14 ?_
  refine j_get cx (pc := 15) 11 0 rfl rfl (C := RX5) (T := TX5) (N := 2) rfl hinX5 1 (by decide) f72 rfl (v := .int (V 28 0)) rfl dX2_waitingWords_15 ?_
  refine j_iadd cx (pc := 18) dX2_waitingWords_18 ?_
  subst hQ; exact j_iret cx hr (by rfl) rfl hA dX2_waitingWords_19
def C2_makeRequest (V : Nat → Nat → Int32) (k : Nat) (value : Int32) (extra : Int32) : Nat → Nat → Int32 :=
  let V1 := up1 V (11 + k) 0 value
  let V2 := chS V1 (C0_insert (chU V1) (((V1 0 1) + (V1 (18 + k) 0)) + extra) k 0 value)
  V2
set_option maxHeartbeats 4000000 in
set_option maxRecDepth 100000 in
theorem c_X2_makeRequest (l : Launch) (D : va_G) (Y : Nat → ClassId) (ad : Nat → Nat) (V : Nat → Nat → Int32) (k : Nat) (value : Int32) (extra : Int32) (hk : k < 7) (hh : chOK (chU V)) : CtV l yX2_makeRequest wsX2_makeRequest 1 27 D (tyL Y) (LB Y ad V) [.ref (ad 0), .int (nI k), .int value, .int extra] (LB Y ad (C2_makeRequest V k value extra)) := by
  refine CtV.intro (own := RX2) (cc := cX2_makeRequest) (maxL := 4) rfl (by decide +kernel) rfl (Nat.le_of_ble_eq_true rfl) (fun p e s m args below meth c A Q hA hQ cx hr => ?_)
  have hinX2 : ∀ w ∈ wsX20, w ∈ wsX2_makeRequest := by decide +kernel
  have hinX3 : ∀ w ∈ wsX30, w ∈ wsX2_makeRequest := by decide +kernel
  have f17 : Cond.fieldLink RX2 17 "FourPhases$Line" "links" "[LFourPhases$Link;" ∈ wsX2_makeRequest := by decide +kernel
  have f33 : Cond.fieldLink RX2 33 "FourPhases$Line" "underWay" "LFourPhases$Changes;" ∈ wsX2_makeRequest := by decide +kernel
  have f57 : Cond.fieldLink RX2 57 "FourPhases$Line" "time" "I" ∈ wsX2_makeRequest := by decide +kernel
  have f115 : Cond.fieldLink RX2 115 "FourPhases$Link" "delays" "[I" ∈ wsX2_makeRequest := by decide +kernel
  have f188 : Cond.fieldLink RX2 188 "FourPhases$Link" "requestAtBeginning" "I" ∈ wsX2_makeRequest := by decide +kernel
  refine j_aload_n cx (pc := 0) dX2_makeRequest_0 0 rfl ?_
  refine j_get cx (pc := 1) 0 0 rfl rfl (C := RX2) (T := TX2) (N := 12) rfl hinX2 6 (by decide) f17 rfl (v := .ref (ad 2)) rfl dX2_makeRequest_1 ?_
  refine j_iload_n cx (pc := 4) dX2_makeRequest_4 1 rfl ?_
  refine j_aald cx (pc := 5) 0 2 3 rfl rfl rfl (by omega) (by decide) (a' := (ad (13 + 2 * k))) rfl dX2_makeRequest_5 ?_
  refine j_iload_n cx (pc := 6) dX2_makeRequest_6 2 rfl ?_
  obtain ⟨V1, hV1⟩ : ∃ z, z = up1 V (11 + k) 0 value := ⟨_, rfl⟩
  have okV1 : chOK (chU V1) := by rw [hV1]; exact okc_set (by omega) hh
  refine j_put cx (pc := 7) (3 + k) 0 (LB_lk Y ad V hk) rfl (C := RX3) (T := TX3) (N := 10) rfl hinX3 tyX3 tyX3_ok nmX3 1 (by decide) f188 rfl rfl rfl rfl (Nat.le_of_ble_eq_true rfl) (Bs' := LB Y ad V1) (by rw [hV1]; exact LB_lkF Y ad V hk (upd (V (11 + k)) 0 value)) dX2_makeRequest_7 ?_
  refine j_aload_n cx (pc := 10) dX2_makeRequest_10 0 rfl ?_
  refine j_get cx (pc := 11) 0 0 rfl rfl (C := RX2) (T := TX2) (N := 12) rfl hinX2 9 (by decide) f33 rfl (v := .ref (ad 5)) rfl dX2_makeRequest_11 ?_
  refine j_aload_n cx (pc := 14) dX2_makeRequest_14 0 rfl ?_
  refine j_get cx (pc := 15) 0 0 rfl rfl (C := RX2) (T := TX2) (N := 12) rfl hinX2 1 (by decide) f57 rfl (v := .int (V1 0 1)) rfl dX2_makeRequest_15 ?_
  refine j_aload_n cx (pc := 18) dX2_makeRequest_18 0 rfl ?_
  refine j_get cx (pc := 19) 0 0 rfl rfl (C := RX2) (T := TX2) (N := 12) rfl hinX2 6 (by decide) f17 rfl (v := .ref (ad 2)) rfl dX2_makeRequest_19 ?_
  refine j_iload_n cx (pc := 22) dX2_makeRequest_22 1 rfl ?_
  refine j_aald cx (pc := 23) 0 2 3 rfl rfl rfl (by omega) (by decide) (a' := (ad (13 + 2 * k))) rfl dX2_makeRequest_23 ?_
  refine j_get cx (pc := 24) (3 + k) 0 (LB_lk Y ad V1 hk) rfl (C := RX3) (T := TX3) (N := 10) rfl hinX3 0 (by decide) f115 rfl (v := .ref (ad (14 + 2 * k))) rfl dX2_makeRequest_24 ?_
  refine j_iconst cx (pc := 27) (v := (nI 0)) dX2_makeRequest_27 (by decide) ?_
  refine j_iald cx (pc := 28) (3 + k) 1 0 (LB_lk Y ad V1 hk) rfl rfl (by decide) (by decide) dX2_makeRequest_28 ?_
  refine j_iadd cx (pc := 29) dX2_makeRequest_29 ?_
  refine j_iload_n cx (pc := 30) dX2_makeRequest_30 3 rfl ?_
  refine j_iadd cx (pc := 31) dX2_makeRequest_31 ?_
  refine j_iload_n cx (pc := 32) dX2_makeRequest_32 1 rfl ?_
  refine j_iconst cx (pc := 33) (v := (nI 0)) dX2_makeRequest_33 (by decide) ?_
  refine j_iload_n cx (pc := 34) dX2_makeRequest_34 2 rfl ?_
  obtain ⟨V2, hV2⟩ : ∃ z, z = chS V1 (C0_insert (chU V1) (((V1 0 1) + (V1 (18 + k) 0)) + extra) k 0 value) := ⟨_, rfl⟩
  have okV2 : chOK (chU V2) := by rw [hV2]; exact okc_ch (ok_insert okV1)
  refine j_callv cx (pc := 35) 4 (c_X0_insert l D Y (ad 5) (ad 6) (ad 7) (chU V1) (((V1 0 1) + (V1 (18 + k) 0)) + extra) k 0 value okV1) gX2_makeRequest_X0_insert rfl (by decide +kernel) rfl ⟨Nat.le_of_ble_eq_true rfl, Nat.le_of_ble_eq_true rfl⟩ [1] rfl (by decide) (Bs' := LB Y ad V2) (by rw [hV2]; exact P1_ch Y ad V1 (C0_insert (chU V1) (((V1 0 1) + (V1 (18 + k) 0)) + extra) k 0 value)) A1_ch 1 0 rfl rfl rfl rfl (Nat.le_of_ble_eq_true rfl) dX2_makeRequest_35 ⟨Nat.zero_le _, Nat.zero_le _⟩ ?_
  subst hQ; exact j_vret cx hr (by subst hV2; subst hV1; rfl) hA dX2_makeRequest_38
theorem ok_makeRequest {V : Nat → Nat → Int32} {k : Nat} {value extra : Int32} (hk : k < 7) (hh : chOK (chU V)) : chOK (chU (C2_makeRequest V k value extra)) := okc_ch (ok_insert (okc_set (by omega) hh))
def C2_makeAnswer (V : Nat → Nat → Int32) (k : Nat) (value : Int32) (extra : Int32) : Nat → Nat → Int32 :=
  let V1 := up1 V (11 + k) 2 value
  let V2 := chS V1 (C0_insert (chU V1) (((V1 0 1) + (V1 (18 + k) 1)) + extra) k 1 value)
  V2
set_option maxHeartbeats 4000000 in
set_option maxRecDepth 100000 in
theorem c_X2_makeAnswer (l : Launch) (D : va_G) (Y : Nat → ClassId) (ad : Nat → Nat) (V : Nat → Nat → Int32) (k : Nat) (value : Int32) (extra : Int32) (hk : k < 7) (hh : chOK (chU V)) : CtV l yX2_makeAnswer wsX2_makeAnswer 1 27 D (tyL Y) (LB Y ad V) [.ref (ad 0), .int (nI k), .int value, .int extra] (LB Y ad (C2_makeAnswer V k value extra)) := by
  refine CtV.intro (own := RX2) (cc := cX2_makeAnswer) (maxL := 4) rfl (by decide +kernel) rfl (Nat.le_of_ble_eq_true rfl) (fun p e s m args below meth c A Q hA hQ cx hr => ?_)
  have hinX2 : ∀ w ∈ wsX20, w ∈ wsX2_makeAnswer := by decide +kernel
  have hinX3 : ∀ w ∈ wsX30, w ∈ wsX2_makeAnswer := by decide +kernel
  have f17 : Cond.fieldLink RX2 17 "FourPhases$Line" "links" "[LFourPhases$Link;" ∈ wsX2_makeAnswer := by decide +kernel
  have f33 : Cond.fieldLink RX2 33 "FourPhases$Line" "underWay" "LFourPhases$Changes;" ∈ wsX2_makeAnswer := by decide +kernel
  have f57 : Cond.fieldLink RX2 57 "FourPhases$Line" "time" "I" ∈ wsX2_makeAnswer := by decide +kernel
  have f115 : Cond.fieldLink RX2 115 "FourPhases$Link" "delays" "[I" ∈ wsX2_makeAnswer := by decide +kernel
  have f191 : Cond.fieldLink RX2 191 "FourPhases$Link" "answerAtEnd" "I" ∈ wsX2_makeAnswer := by decide +kernel
  refine j_aload_n cx (pc := 0) dX2_makeAnswer_0 0 rfl ?_
  refine j_get cx (pc := 1) 0 0 rfl rfl (C := RX2) (T := TX2) (N := 12) rfl hinX2 6 (by decide) f17 rfl (v := .ref (ad 2)) rfl dX2_makeAnswer_1 ?_
  refine j_iload_n cx (pc := 4) dX2_makeAnswer_4 1 rfl ?_
  refine j_aald cx (pc := 5) 0 2 3 rfl rfl rfl (by omega) (by decide) (a' := (ad (13 + 2 * k))) rfl dX2_makeAnswer_5 ?_
  refine j_iload_n cx (pc := 6) dX2_makeAnswer_6 2 rfl ?_
  obtain ⟨V1, hV1⟩ : ∃ z, z = up1 V (11 + k) 2 value := ⟨_, rfl⟩
  have okV1 : chOK (chU V1) := by rw [hV1]; exact okc_set (by omega) hh
  refine j_put cx (pc := 7) (3 + k) 0 (LB_lk Y ad V hk) rfl (C := RX3) (T := TX3) (N := 10) rfl hinX3 tyX3 tyX3_ok nmX3 3 (by decide) f191 rfl rfl rfl rfl (Nat.le_of_ble_eq_true rfl) (Bs' := LB Y ad V1) (by rw [hV1]; exact LB_lkF Y ad V hk (upd (V (11 + k)) 2 value)) dX2_makeAnswer_7 ?_
  refine j_aload_n cx (pc := 10) dX2_makeAnswer_10 0 rfl ?_
  refine j_get cx (pc := 11) 0 0 rfl rfl (C := RX2) (T := TX2) (N := 12) rfl hinX2 9 (by decide) f33 rfl (v := .ref (ad 5)) rfl dX2_makeAnswer_11 ?_
  refine j_aload_n cx (pc := 14) dX2_makeAnswer_14 0 rfl ?_
  refine j_get cx (pc := 15) 0 0 rfl rfl (C := RX2) (T := TX2) (N := 12) rfl hinX2 1 (by decide) f57 rfl (v := .int (V1 0 1)) rfl dX2_makeAnswer_15 ?_
  refine j_aload_n cx (pc := 18) dX2_makeAnswer_18 0 rfl ?_
  refine j_get cx (pc := 19) 0 0 rfl rfl (C := RX2) (T := TX2) (N := 12) rfl hinX2 6 (by decide) f17 rfl (v := .ref (ad 2)) rfl dX2_makeAnswer_19 ?_
  refine j_iload_n cx (pc := 22) dX2_makeAnswer_22 1 rfl ?_
  refine j_aald cx (pc := 23) 0 2 3 rfl rfl rfl (by omega) (by decide) (a' := (ad (13 + 2 * k))) rfl dX2_makeAnswer_23 ?_
  refine j_get cx (pc := 24) (3 + k) 0 (LB_lk Y ad V1 hk) rfl (C := RX3) (T := TX3) (N := 10) rfl hinX3 0 (by decide) f115 rfl (v := .ref (ad (14 + 2 * k))) rfl dX2_makeAnswer_24 ?_
  refine j_iconst cx (pc := 27) (v := (nI 1)) dX2_makeAnswer_27 (by decide) ?_
  refine j_iald cx (pc := 28) (3 + k) 1 0 (LB_lk Y ad V1 hk) rfl rfl (by decide) (by decide) dX2_makeAnswer_28 ?_
  refine j_iadd cx (pc := 29) dX2_makeAnswer_29 ?_
  refine j_iload_n cx (pc := 30) dX2_makeAnswer_30 3 rfl ?_
  refine j_iadd cx (pc := 31) dX2_makeAnswer_31 ?_
  refine j_iload_n cx (pc := 32) dX2_makeAnswer_32 1 rfl ?_
  refine j_iconst cx (pc := 33) (v := (nI 1)) dX2_makeAnswer_33 (by decide) ?_
  refine j_iload_n cx (pc := 34) dX2_makeAnswer_34 2 rfl ?_
  obtain ⟨V2, hV2⟩ : ∃ z, z = chS V1 (C0_insert (chU V1) (((V1 0 1) + (V1 (18 + k) 1)) + extra) k 1 value) := ⟨_, rfl⟩
  have okV2 : chOK (chU V2) := by rw [hV2]; exact okc_ch (ok_insert okV1)
  refine j_callv cx (pc := 35) 4 (c_X0_insert l D Y (ad 5) (ad 6) (ad 7) (chU V1) (((V1 0 1) + (V1 (18 + k) 1)) + extra) k 1 value okV1) gX2_makeAnswer_X0_insert rfl (by decide +kernel) rfl ⟨Nat.le_of_ble_eq_true rfl, Nat.le_of_ble_eq_true rfl⟩ [1] rfl (by decide) (Bs' := LB Y ad V2) (by rw [hV2]; exact P1_ch Y ad V1 (C0_insert (chU V1) (((V1 0 1) + (V1 (18 + k) 1)) + extra) k 1 value)) A1_ch 1 0 rfl rfl rfl rfl (Nat.le_of_ble_eq_true rfl) dX2_makeAnswer_35 ⟨Nat.zero_le _, Nat.zero_le _⟩ ?_
  subst hQ; exact j_vret cx hr (by subst hV2; subst hV1; rfl) hA dX2_makeAnswer_38
theorem ok_makeAnswer {V : Nat → Nat → Int32} {k : Nat} {value extra : Int32} (hk : k < 7) (hh : chOK (chU V)) : chOK (chU (C2_makeAnswer V k value extra)) := okc_ch (ok_insert (okc_set (by omega) hh))
def C2_offer (V : Nat → Nat → Int32) (k : Nat) (word : Int32) : Nat → Nat → Int32 :=
  let V1 := up1 V (11 + k) 4 word
  let V2 := chS V1 (C0_insert (chU V1) ((V1 0 1) + (V1 (18 + k) 2)) k 2 word)
  let V3 := (C2_makeRequest V2 k (nI 1) (V2 1 0))
  let V4 := up1 V3 (11 + k) 6 (nI 0)
  let V5 := up1 V4 (11 + k) 8 ((V4 (11 + k) 8) + (nI 1))
  V5
set_option maxHeartbeats 4000000 in
set_option maxRecDepth 100000 in
theorem c_X2_offer (l : Launch) (D : va_G) (Y : Nat → ClassId) (ad : Nat → Nat) (V : Nat → Nat → Int32) (k : Nat) (word : Int32) (hk : k < 7) (hh : chOK (chU V)) : CtV l yX2_offer wsX2_offer 2 50 D (tyL Y) (LB Y ad V) [.ref (ad 0), .int (nI k), .int word] (LB Y ad (C2_offer V k word)) := by
  refine CtV.intro (own := RX2) (cc := cX2_offer) (maxL := 4) rfl (by decide +kernel) rfl (Nat.le_of_ble_eq_true rfl) (fun p e s m args below meth c A Q hA hQ cx hr => ?_)
  have hinX2 : ∀ w ∈ wsX20, w ∈ wsX2_offer := by decide +kernel
  have hinX3 : ∀ w ∈ wsX30, w ∈ wsX2_offer := by decide +kernel
  have f9 : Cond.fieldLink RX2 9 "FourPhases$Line" "settings" "[I" ∈ wsX2_offer := by decide +kernel
  have f17 : Cond.fieldLink RX2 17 "FourPhases$Line" "links" "[LFourPhases$Link;" ∈ wsX2_offer := by decide +kernel
  have f33 : Cond.fieldLink RX2 33 "FourPhases$Line" "underWay" "LFourPhases$Changes;" ∈ wsX2_offer := by decide +kernel
  have f57 : Cond.fieldLink RX2 57 "FourPhases$Line" "time" "I" ∈ wsX2_offer := by decide +kernel
  have f99 : Cond.fieldLink RX2 99 "FourPhases$Link" "atRest" "Z" ∈ wsX2_offer := by decide +kernel
  have f115 : Cond.fieldLink RX2 115 "FourPhases$Link" "delays" "[I" ∈ wsX2_offer := by decide +kernel
  have f180 : Cond.fieldLink RX2 180 "FourPhases$Link" "dataAtBeginning" "I" ∈ wsX2_offer := by decide +kernel
  have f187 : Cond.fieldLink RX2 187 "FourPhases$Link" "offeredWords" "I" ∈ wsX2_offer := by decide +kernel
  refine j_aload_n cx (pc := 0) dX2_offer_0 0 rfl ?_
  refine j_get cx (pc := 1) 0 0 rfl rfl (C := RX2) (T := TX2) (N := 12) rfl hinX2 6 (by decide) f17 rfl (v := .ref (ad 2)) rfl dX2_offer_1 ?_
  refine j_iload_n cx (pc := 4) dX2_offer_4 1 rfl ?_
  refine j_aald cx (pc := 5) 0 2 3 rfl rfl rfl (by omega) (by decide) (a' := (ad (13 + 2 * k))) rfl dX2_offer_5 ?_
  refine j_astore_n cx (pc := 6) (lv' := [(3, .ref (ad (13 + 2 * k))), (0, .ref (ad 0)), (1, .int (nI k)), (2, .int word)]) dX2_offer_6 (by decide) rfl ?_
  refine j_aload_n cx (pc := 7) dX2_offer_7 0 rfl ?_
  refine j_iload_n cx (pc := 8) dX2_offer_8 3 rfl ?_
  obtain ⟨V1, hV1⟩ : ∃ z, z = up1 V (11 + k) 4 word := ⟨_, rfl⟩
  have okV1 : chOK (chU V1) := by rw [hV1]; exact okc_set (by omega) hh
  refine j_put cx (pc := 9) (3 + k) 0 (LB_lk Y ad V hk) rfl (C := RX3) (T := TX3) (N := 10) rfl hinX3 tyX3 tyX3_ok nmX3 5 (by decide) f180 rfl rfl rfl rfl (Nat.le_of_ble_eq_true rfl) (Bs' := LB Y ad V1) (by rw [hV1]; exact LB_lkF Y ad V hk (upd (V (11 + k)) 4 word)) dX2_offer_9 ?_
  refine j_aload_n cx (pc := 12) dX2_offer_12 1 rfl ?_
  refine j_get cx (pc := 13) 0 0 rfl rfl (C := RX2) (T := TX2) (N := 12) rfl hinX2 9 (by decide) f33 rfl (v := .ref (ad 5)) rfl dX2_offer_13 ?_
  refine j_aload_n cx (pc := 16) dX2_offer_16 1 rfl ?_
  refine j_get cx (pc := 17) 0 0 rfl rfl (C := RX2) (T := TX2) (N := 12) rfl hinX2 1 (by decide) f57 rfl (v := .int (V1 0 1)) rfl dX2_offer_17 ?_
  refine j_aload_n cx (pc := 20) dX2_offer_20 0 rfl ?_
  refine j_get cx (pc := 21) (3 + k) 0 (LB_lk Y ad V1 hk) rfl (C := RX3) (T := TX3) (N := 10) rfl hinX3 0 (by decide) f115 rfl (v := .ref (ad (14 + 2 * k))) rfl dX2_offer_21 ?_
  refine j_iconst cx (pc := 24) (v := (nI 2)) dX2_offer_24 (by decide) ?_
  refine j_iald cx (pc := 25) (3 + k) 1 0 (LB_lk Y ad V1 hk) rfl rfl (by decide) (by decide) dX2_offer_25 ?_
  refine j_iadd cx (pc := 26) dX2_offer_26 ?_
  refine j_iload_n cx (pc := 27) dX2_offer_27 2 rfl ?_
  refine j_iconst cx (pc := 28) (v := (nI 2)) dX2_offer_28 (by decide) ?_
  refine j_iload_n cx (pc := 29) dX2_offer_29 3 rfl ?_
  obtain ⟨V2, hV2⟩ : ∃ z, z = chS V1 (C0_insert (chU V1) ((V1 0 1) + (V1 (18 + k) 2)) k 2 word) := ⟨_, rfl⟩
  have okV2 : chOK (chU V2) := by rw [hV2]; exact okc_ch (ok_insert okV1)
  refine j_callv cx (pc := 30) 4 (c_X0_insert l D Y (ad 5) (ad 6) (ad 7) (chU V1) ((V1 0 1) + (V1 (18 + k) 2)) k 2 word okV1) gX2_offer_X0_insert rfl (by decide +kernel) rfl ⟨Nat.le_of_ble_eq_true rfl, Nat.le_of_ble_eq_true rfl⟩ [1] rfl (by decide) (Bs' := LB Y ad V2) (by rw [hV2]; exact P1_ch Y ad V1 (C0_insert (chU V1) ((V1 0 1) + (V1 (18 + k) 2)) k 2 word)) A1_ch 1 0 rfl rfl rfl rfl (Nat.le_of_ble_eq_true rfl) dX2_offer_30 ⟨Nat.zero_le _, Nat.zero_le _⟩ ?_
  refine j_aload_n cx (pc := 33) dX2_offer_33 1 rfl ?_
  refine j_iload_n cx (pc := 34) dX2_offer_34 2 rfl ?_
  refine j_iconst cx (pc := 35) (v := (nI 1)) dX2_offer_35 (by decide) ?_
  refine j_aload_n cx (pc := 36) dX2_offer_36 1 rfl ?_
  refine j_get cx (pc := 37) 0 0 rfl rfl (C := RX2) (T := TX2) (N := 12) rfl hinX2 5 (by decide) f9 rfl (v := .ref (ad 1)) rfl dX2_offer_37 ?_
  refine j_iconst cx (pc := 40) (v := (nI 0)) dX2_offer_40 (by decide) ?_
  refine j_iald cx (pc := 41) 0 1 0 rfl rfl rfl (by decide) (by decide) dX2_offer_41 ?_
  obtain ⟨V3, hV3⟩ : ∃ z, z = (C2_makeRequest V2 k (nI 1) (V2 1 0)) := ⟨_, rfl⟩
  have okV3 : chOK (chU V3) := by rw [hV3]; exact ok_makeRequest (by omega) okV2
  refine j_callv cx (pc := 42) 3 (c_X2_makeRequest l D Y ad V2 k (nI 1) (V2 1 0) hk okV2) gX2_offer_X2_makeRequest rfl (by decide +kernel) rfl ⟨Nat.le_of_ble_eq_true rfl, Nat.le_of_ble_eq_true rfl⟩ [0, 1, 2, 3, 4, 5, 6, 7, 8, 9, 10, 11] rfl (by decide) (Bs' := LB Y ad V3) (by rw [hV3]; exact P1_ln V2 (C2_makeRequest V2 k (nI 1) (V2 1 0))) A1_ln 0 0 rfl rfl rfl rfl (Nat.le_of_ble_eq_true rfl) dX2_offer_42 ⟨Nat.zero_le _, Nat.zero_le _⟩ ?_
  refine j_aload_n cx (pc := 45) dX2_offer_45 0 rfl ?_
  refine j_iconst cx (pc := 46) (v := (nI 0)) dX2_offer_46 (by decide) ?_
  obtain ⟨V4, hV4⟩ : ∃ z, z = up1 V3 (11 + k) 6 (nI 0) := ⟨_, rfl⟩
  have okV4 : chOK (chU V4) := by rw [hV4]; exact okc_set (by omega) okV3
  refine j_put cx (pc := 47) (3 + k) 0 (LB_lk Y ad V3 hk) rfl (C := RX3) (T := TX3) (N := 10) rfl hinX3 tyX3 tyX3_ok nmX3 7 (by decide) f99 rfl rfl rfl rfl (Nat.le_of_ble_eq_true rfl) (Bs' := LB Y ad V4) (by rw [hV4]; exact LB_lkF Y ad V3 hk (upd (V3 (11 + k)) 6 (nI 0))) dX2_offer_47 ?_
  refine j_aload_n cx (pc := 50) dX2_offer_50 0 rfl ?_
  refine j_dup cx (pc := 51) dX2_offer_51 rfl ?_
  refine j_get cx (pc := 52) (3 + k) 0 (LB_lk Y ad V4 hk) rfl (C := RX3) (T := TX3) (N := 10) rfl hinX3 9 (by decide) f187 rfl (v := .int (V4 (11 + k) 8)) rfl dX2_offer_52 ?_
  refine j_iconst cx (pc := 55) (v := (nI 1)) dX2_offer_55 (by decide) ?_
  refine j_iadd cx (pc := 56) dX2_offer_56 ?_
  obtain ⟨V5, hV5⟩ : ∃ z, z = up1 V4 (11 + k) 8 ((V4 (11 + k) 8) + (nI 1)) := ⟨_, rfl⟩
  have okV5 : chOK (chU V5) := by rw [hV5]; exact okc_set (by omega) okV4
  refine j_put cx (pc := 57) (3 + k) 0 (LB_lk Y ad V4 hk) rfl (C := RX3) (T := TX3) (N := 10) rfl hinX3 tyX3 tyX3_ok nmX3 9 (by decide) f187 rfl rfl rfl rfl (Nat.le_of_ble_eq_true rfl) (Bs' := LB Y ad V5) (by rw [hV5]; exact LB_lkF Y ad V4 hk (upd (V4 (11 + k)) 8 ((V4 (11 + k) 8) + (nI 1)))) dX2_offer_57 ?_
  subst hQ; exact j_vret cx hr (by subst hV5; subst hV4; subst hV3; subst hV2; subst hV1; rfl) hA dX2_offer_60
theorem ok_offer {V : Nat → Nat → Int32} {k : Nat} {word : Int32} (hk : k < 7) (hh : chOK (chU V)) : chOK (chU (C2_offer V k word)) := okc_set (by omega) (okc_set (by omega) (ok_makeRequest hk (okc_ch (ok_insert (okc_set (by omega) hh)))))
def C2_takeWord (V : Nat → Nat → Int32) (k : Nat) : Nat → Nat → Int32 :=
  let V1 := up1 V (11 + k) 7 (nI 0)
  let V2 := up1 V1 2 k (V1 (11 + k) 5)
  let V3 := (C2_makeAnswer V2 k (nI 1) (nI 0))
  V3
set_option maxHeartbeats 4000000 in
set_option maxRecDepth 100000 in
theorem c_X2_takeWord (l : Launch) (D : va_G) (Y : Nat → ClassId) (ad : Nat → Nat) (V : Nat → Nat → Int32) (k : Nat) (hk6 : k < 6) (hh : chOK (chU V)) : CtV l yX2_takeWord wsX2_takeWord 2 50 D (tyL Y) (LB Y ad V) [.ref (ad 0), .int (nI k)] (LB Y ad (C2_takeWord V k)) := by
  refine CtV.intro (own := RX2) (cc := cX2_takeWord) (maxL := 2) rfl (by decide +kernel) rfl (Nat.le_of_ble_eq_true rfl) (fun p e s m args below meth c A Q hA hQ cx hr => ?_)
  have hinX2 : ∀ w ∈ wsX20, w ∈ wsX2_takeWord := by decide +kernel
  have hinX3 : ∀ w ∈ wsX30, w ∈ wsX2_takeWord := by decide +kernel
  have f17 : Cond.fieldLink RX2 17 "FourPhases$Line" "links" "[LFourPhases$Link;" ∈ wsX2_takeWord := by decide +kernel
  have f21 : Cond.fieldLink RX2 21 "FourPhases$Line" "held" "[I" ∈ wsX2_takeWord := by decide +kernel
  have f148 : Cond.fieldLink RX2 148 "FourPhases$Link" "dataAtEnd" "I" ∈ wsX2_takeWord := by decide +kernel
  have f161 : Cond.fieldLink RX2 161 "FourPhases$Link" "requestWaits" "Z" ∈ wsX2_takeWord := by decide +kernel
  have hk : k < 7 := by omega
  refine j_aload_n cx (pc := 0) dX2_takeWord_0 0 rfl ?_
  refine j_get cx (pc := 1) 0 0 rfl rfl (C := RX2) (T := TX2) (N := 12) rfl hinX2 6 (by decide) f17 rfl (v := .ref (ad 2)) rfl dX2_takeWord_1 ?_
  refine j_iload_n cx (pc := 4) dX2_takeWord_4 1 rfl ?_
  refine j_aald cx (pc := 5) 0 2 3 rfl rfl rfl (by omega) (by decide) (a' := (ad (13 + 2 * k))) rfl dX2_takeWord_5 ?_
  refine j_iconst cx (pc := 6) (v := (nI 0)) dX2_takeWord_6 (by decide) ?_
  obtain ⟨V1, hV1⟩ : ∃ z, z = up1 V (11 + k) 7 (nI 0) := ⟨_, rfl⟩
  have okV1 : chOK (chU V1) := by rw [hV1]; exact okc_set (by omega) hh
  refine j_put cx (pc := 7) (3 + k) 0 (LB_lk Y ad V hk) rfl (C := RX3) (T := TX3) (N := 10) rfl hinX3 tyX3 tyX3_ok nmX3 8 (by decide) f161 rfl rfl rfl rfl (Nat.le_of_ble_eq_true rfl) (Bs' := LB Y ad V1) (by rw [hV1]; exact LB_lkF Y ad V hk (upd (V (11 + k)) 7 (nI 0))) dX2_takeWord_7 ?_
  refine j_aload_n cx (pc := 10) dX2_takeWord_10 0 rfl ?_
  refine j_get cx (pc := 11) 0 0 rfl rfl (C := RX2) (T := TX2) (N := 12) rfl hinX2 7 (by decide) f21 rfl (v := .ref (ad 3)) rfl dX2_takeWord_11 ?_
  refine j_iload_n cx (pc := 14) dX2_takeWord_14 1 rfl ?_
  refine j_aload_n cx (pc := 15) dX2_takeWord_15 0 rfl ?_
  refine j_get cx (pc := 16) 0 0 rfl rfl (C := RX2) (T := TX2) (N := 12) rfl hinX2 6 (by decide) f17 rfl (v := .ref (ad 2)) rfl dX2_takeWord_16 ?_
  refine j_iload_n cx (pc := 19) dX2_takeWord_19 1 rfl ?_
  refine j_aald cx (pc := 20) 0 2 3 rfl rfl rfl (by omega) (by decide) (a' := (ad (13 + 2 * k))) rfl dX2_takeWord_20 ?_
  refine j_get cx (pc := 21) (3 + k) 0 (LB_lk Y ad V1 hk) rfl (C := RX3) (T := TX3) (N := 10) rfl hinX3 6 (by decide) f148 rfl (v := .int (V1 (11 + k) 5)) rfl dX2_takeWord_21 ?_
  obtain ⟨V2, hV2⟩ : ∃ z, z = up1 V1 2 k (V1 (11 + k) 5) := ⟨_, rfl⟩
  have okV2 : chOK (chU V2) := by rw [hV2]; exact okc_set (by omega) okV1
  refine j_iast cx (pc := 24) 0 3 0 rfl rfl rfl (by omega) (by decide) (Bs' := LB Y ad V2) (by rw [hV2]; rfl) dX2_takeWord_24 ?_
  refine j_aload_n cx (pc := 25) dX2_takeWord_25 0 rfl ?_
  refine j_iload_n cx (pc := 26) dX2_takeWord_26 1 rfl ?_
  refine j_iconst cx (pc := 27) (v := (nI 1)) dX2_takeWord_27 (by decide) ?_
  refine j_iconst cx (pc := 28) (v := (nI 0)) dX2_takeWord_28 (by decide) ?_
  obtain ⟨V3, hV3⟩ : ∃ z, z = (C2_makeAnswer V2 k (nI 1) (nI 0)) := ⟨_, rfl⟩
  have okV3 : chOK (chU V3) := by rw [hV3]; exact ok_makeAnswer (by omega) okV2
  refine j_callv cx (pc := 29) 3 (c_X2_makeAnswer l D Y ad V2 k (nI 1) (nI 0) hk okV2) gX2_takeWord_X2_makeAnswer rfl (by decide +kernel) rfl ⟨Nat.le_of_ble_eq_true rfl, Nat.le_of_ble_eq_true rfl⟩ [0, 1, 2, 3, 4, 5, 6, 7, 8, 9, 10, 11] rfl (by decide) (Bs' := LB Y ad V3) (by rw [hV3]; exact P1_ln V2 (C2_makeAnswer V2 k (nI 1) (nI 0))) A1_ln 0 0 rfl rfl rfl rfl (Nat.le_of_ble_eq_true rfl) dX2_takeWord_29 ⟨Nat.zero_le _, Nat.zero_le _⟩ ?_
  subst hQ; exact j_vret cx hr (by subst hV3; subst hV2; subst hV1; rfl) hA dX2_takeWord_32
theorem ok_takeWord {V : Nat → Nat → Int32} {k : Nat} (hk : k < 7) (hh : chOK (chU V)) : chOK (chU (C2_takeWord V k)) := ok_makeAnswer hk (okc_set (by decide) (okc_set (by omega) hh))
def C2_noteWord (V : Nat → Nat → Int32) (word : Int32) : Nat → Nat → Int32 :=
  if word = (V 3 ((tN (V 7 0)) % 8)) then
    let V2 := ntS V (C4_append (ntU V) word (V 0 1) (nI 1))
    V2
  else
    let V1 := ntS V (C4_append (ntU V) word (V 0 1) (nI 0))
    V1
set_option maxHeartbeats 4000000 in
set_option maxRecDepth 100000 in
theorem c_X2_noteWord (l : Launch) (D : va_G) (Y : Nat → ClassId) (ad : Nat → Nat) (V : Nat → Nat → Int32) (word : Int32) (hnt : ¬ V 7 0 < 0) (hh : chOK (chU V)) : CtV l yX2_noteWord wsX2_noteWord 1 24 D (tyL Y) (LB Y ad V) [.ref (ad 0), .int word] (LB Y ad (C2_noteWord V word)) := by
  refine CtV.intro (own := RX2) (cc := cX2_noteWord) (maxL := 3) rfl (by decide +kernel) rfl (Nat.le_of_ble_eq_true rfl) (fun p e s m args below meth c A Q hA hQ cx hr => ?_)
  have hinX2 : ∀ w ∈ wsX20, w ∈ wsX2_noteWord := by decide +kernel
  have hinX4 : ∀ w ∈ wsX40, w ∈ wsX2_noteWord := by decide +kernel
  have f40 : Cond.fieldLink RX2 40 "FourPhases$Line" "notes" "LFourPhases$Notes;" ∈ wsX2_noteWord := by decide +kernel
  have f44 : Cond.fieldLink RX2 44 "FourPhases$Line" "offered" "[I" ∈ wsX2_noteWord := by decide +kernel
  have f57 : Cond.fieldLink RX2 57 "FourPhases$Line" "time" "I" ∈ wsX2_noteWord := by decide +kernel
  have f119 : Cond.fieldLink RX2 119 "FourPhases$Notes" "count" "I" ∈ wsX2_noteWord := by decide +kernel
  have h31 : tN (V 7 0) < 2 ^ 31 := tN_lt _
  have h8 : tN (V 7 0) % 8 < 8 := Nat.mod_lt _ (by decide)
  refine j_iload_n cx (pc := 0) dX2_noteWord_0 1 rfl ?_
  refine j_aload_n cx (pc := 1) dX2_noteWord_1 0 rfl ?_
  refine j_get cx (pc := 2) 0 0 rfl rfl (C := RX2) (T := TX2) (N := 12) rfl hinX2 11 (by decide) f44 rfl (v := .ref (ad 12)) rfl dX2_noteWord_2 ?_
  refine j_aload_n cx (pc := 5) dX2_noteWord_5 0 rfl ?_
  refine j_get cx (pc := 6) 0 0 rfl rfl (C := RX2) (T := TX2) (N := 12) rfl hinX2 10 (by decide) f40 rfl (v := .ref (ad 8)) rfl dX2_noteWord_6 ?_
  refine j_get cx (pc := 9) 2 0 rfl rfl (C := RX4) (T := TX4) (N := 5) rfl hinX4 3 (by decide) f119 rfl (v := .int (V 7 0)) rfl dX2_noteWord_9 ?_
  refine j_top (show (V 7 0) = (nI (tN (V 7 0))) from inG hnt) ?_
  refine j_bipush cx (pc := 12) (v := (nI 8)) dX2_noteWord_12 (by decide) ?_
  refine j_iremN cx (pc := 14) (by omega) (by omega) (by omega) dX2_noteWord_14 ?_
  refine j_iald cx (pc := 15) 0 5 0 rfl rfl rfl (by omega) (by decide) dX2_noteWord_15 ?_
  refine j_icmp_ne cx (pc := 16) (tgt := 23) dX2_noteWord_16 (by decide) (fun c16_1 => ?_) (fun c16_1 => ?_)
  · skip
    refine j_iconst cx (pc := 23) (v := (nI 0)) dX2_noteWord_23 (by decide) ?_
    refine j_istore_n cx (pc := 24) (lv' := [(2, .int (nI 0)), (0, .ref (ad 0)), (1, .int word)]) dX2_noteWord_24 (by decide) rfl ?_
    refine j_aload_n cx (pc := 25) dX2_noteWord_25 1 rfl ?_
    refine j_get cx (pc := 26) 0 0 rfl rfl (C := RX2) (T := TX2) (N := 12) rfl hinX2 10 (by decide) f40 rfl (v := .ref (ad 8)) rfl dX2_noteWord_26 ?_
    refine j_iload_n cx (pc := 29) dX2_noteWord_29 2 rfl ?_
    refine j_aload_n cx (pc := 30) dX2_noteWord_30 1 rfl ?_
    refine j_get cx (pc := 31) 0 0 rfl rfl (C := RX2) (T := TX2) (N := 12) rfl hinX2 1 (by decide) f57 rfl (v := .int (V 0 1)) rfl dX2_noteWord_31 ?_
    refine j_iload_n cx (pc := 34) dX2_noteWord_34 0 rfl ?_
    refine j_ifN_eq cx (pc := 35) (by decide) (tgt := 42) dX2_noteWord_35 (by decide) (fun c35_2 => ?_) (fun c35_2 => by exfalso; revert c35_2; decide)
    refine j_iconst cx (pc := 42) (v := (nI 0)) dX2_noteWord_42 (by decide) ?_
    obtain ⟨V1, hV1⟩ : ∃ z, z = ntS V (C4_append (ntU V) word (V 0 1) (nI 0)) := ⟨_, rfl⟩
    have okV1 : chOK (chU V1) := by rw [hV1]; exact ok_ntS hh
    refine j_callv cx (pc := 43) 3 (c_X4_append l D Y (ad 8) (ad 9) (ad 10) (ad 11) (ntU V) word (V 0 1) (nI 0) hnt) gX2_noteWord_X4_append rfl (by decide +kernel) rfl ⟨Nat.le_of_ble_eq_true rfl, Nat.le_of_ble_eq_true rfl⟩ [2] rfl (by decide) (Bs' := LB Y ad V1) (by rw [hV1]; exact P1_nt Y ad V (C4_append (ntU V) word (V 0 1) (nI 0))) A1_nt 2 0 rfl rfl rfl rfl (Nat.le_of_ble_eq_true rfl) dX2_noteWord_43 ⟨Nat.zero_le _, Nat.zero_le _⟩ ?_
    subst hQ; exact j_vret cx hr (by subst hV1; simp only [C2_noteWord, if_neg c16_1]) hA dX2_noteWord_46
  · skip
    refine j_iconst cx (pc := 19) (v := (nI 1)) dX2_noteWord_19 (by decide) ?_
    refine j_goto cx (pc := 20) (tgt := 24) dX2_noteWord_20 (by decide) ?_
    refine j_istore_n cx (pc := 24) (lv' := [(2, .int (nI 1)), (0, .ref (ad 0)), (1, .int word)]) dX2_noteWord_24 (by decide) rfl ?_
    refine j_aload_n cx (pc := 25) dX2_noteWord_25 1 rfl ?_
    refine j_get cx (pc := 26) 0 0 rfl rfl (C := RX2) (T := TX2) (N := 12) rfl hinX2 10 (by decide) f40 rfl (v := .ref (ad 8)) rfl dX2_noteWord_26 ?_
    refine j_iload_n cx (pc := 29) dX2_noteWord_29 2 rfl ?_
    refine j_aload_n cx (pc := 30) dX2_noteWord_30 1 rfl ?_
    refine j_get cx (pc := 31) 0 0 rfl rfl (C := RX2) (T := TX2) (N := 12) rfl hinX2 1 (by decide) f57 rfl (v := .int (V 0 1)) rfl dX2_noteWord_31 ?_
    refine j_iload_n cx (pc := 34) dX2_noteWord_34 0 rfl ?_
    refine j_ifN_eq cx (pc := 35) (by decide) (tgt := 42) dX2_noteWord_35 (by decide) (fun c35_3 => by exfalso; revert c35_3; decide) (fun c35_3 => ?_)
    refine j_iconst cx (pc := 38) (v := (nI 1)) dX2_noteWord_38 (by decide) ?_
    refine j_goto cx (pc := 39) (tgt := 43) dX2_noteWord_39 (by decide) ?_
    obtain ⟨V2, hV2⟩ : ∃ z, z = ntS V (C4_append (ntU V) word (V 0 1) (nI 1)) := ⟨_, rfl⟩
    have okV2 : chOK (chU V2) := by rw [hV2]; exact ok_ntS hh
    refine j_callv cx (pc := 43) 3 (c_X4_append l D Y (ad 8) (ad 9) (ad 10) (ad 11) (ntU V) word (V 0 1) (nI 1) hnt) gX2_noteWord_X4_append rfl (by decide +kernel) rfl ⟨Nat.le_of_ble_eq_true rfl, Nat.le_of_ble_eq_true rfl⟩ [2] rfl (by decide) (Bs' := LB Y ad V2) (by rw [hV2]; exact P1_nt Y ad V (C4_append (ntU V) word (V 0 1) (nI 1))) A1_nt 2 0 rfl rfl rfl rfl (Nat.le_of_ble_eq_true rfl) dX2_noteWord_43 ⟨Nat.zero_le _, Nat.zero_le _⟩ ?_
    subst hQ; exact j_vret cx hr (by subst hV2; simp only [C2_noteWord, if_pos c16_1]) hA dX2_noteWord_46
theorem ok_noteWord {V : Nat → Nat → Int32} {word : Int32} (hh : chOK (chU V)) : chOK (chU (C2_noteWord V word)) := by
  unfold C2_noteWord
  split
  · exact ok_ntS hh
  · exact ok_ntS hh
def C2_chosenSender (V : Nat → Nat → Int32)  : Int32 :=
  if (V 28 0) = 0 then
    (nI 0)
  else
    if (V 27 0) = 0 then
      (nI 1)
    else
      if (V 1 2) = 0 then
        if (V 0 2) = 0 then
          (nI 1)
        else
          (nI 0)
      else
        (nI 0)
set_option maxHeartbeats 4000000 in
set_option maxRecDepth 100000 in
theorem c_X2_chosenSender (l : Launch) (D : va_G) (Y : Nat → ClassId) (ad : Nat → Nat) (V : Nat → Nat → Int32)   : CtI l yX2_chosenSender wsX2_chosenSender 0 0 D (tyL Y) (LB Y ad V) [.ref (ad 0)] (C2_chosenSender V ) (LB Y ad V) := by
  refine CtI.intro (own := RX2) (cc := cX2_chosenSender) (maxL := 1) rfl (by decide +kernel) rfl (Nat.le_of_ble_eq_true rfl) (fun p e s m args below meth c A Q hA hQ cx hr => ?_)
  have hinX2 : ∀ w ∈ wsX20, w ∈ wsX2_chosenSender := by decide +kernel
  have hinX5 : ∀ w ∈ wsX50, w ∈ wsX2_chosenSender := by decide +kernel
  have f9 : Cond.fieldLink RX2 9 "FourPhases$Line" "settings" "[I" ∈ wsX2_chosenSender := by decide +kernel
  have f26 : Cond.fieldLink RX2 26 "FourPhases$Line" "rows" "[LFourPhases$Row;" ∈ wsX2_chosenSender := by decide +kernel
  have f60 : Cond.fieldLink RX2 60 "FourPhases$Line" "latestSender" "I" ∈ wsX2_chosenSender := by decide +kernel
  have f72 : Cond.fieldLink RX2 72 "FourPhases$Row" "count" "I" ∈ wsX2_chosenSender := by decide +kernel
  refine j_aload_n cx (pc := 0) dX2_chosenSender_0 0 rfl ?_
  refine j_get cx (pc := 1) 0 0 rfl rfl (C := RX2) (T := TX2) (N := 12) rfl hinX2 8 (by decide) f26 rfl (v := .ref (ad 4)) rfl dX2_chosenSender_1 ?_
  refine j_iconst cx (pc := 4) (v := (nI 1)) dX2_chosenSender_4 (by decide) ?_
  refine j_aald cx (pc := 5) 0 4 4 rfl rfl rfl (by decide) (by decide) (a' := (ad 29)) rfl dX2_chosenSender_5 ?_
  refine j_get cx (pc := 6) 11 0 rfl rfl (C := RX5) (T := TX5) (N := 2) rfl hinX5 1 (by decide) f72 rfl (v := .int (V 28 0)) rfl dX2_chosenSender_6 ?_
  refine j_if_ne cx (pc := 9) (tgt := 14) dX2_chosenSender_9 (by decide) (fun c9_1 => ?_) (fun c9_1 => ?_)
  · skip
    refine j_aload_n cx (pc := 14) dX2_chosenSender_14 0 rfl ?_
    refine j_get cx (pc := 15) 0 0 rfl rfl (C := RX2) (T := TX2) (N := 12) rfl hinX2 8 (by decide) f26 rfl (v := .ref (ad 4)) rfl dX2_chosenSender_15 ?_
    refine j_iconst cx (pc := 18) (v := (nI 0)) dX2_chosenSender_18 (by decide) ?_
    refine j_aald cx (pc := 19) 0 4 4 rfl rfl rfl (by decide) (by decide) (a' := (ad 27)) rfl dX2_chosenSender_19 ?_
    refine j_get cx (pc := 20) 10 0 rfl rfl (C := RX5) (T := TX5) (N := 2) rfl hinX5 1 (by decide) f72 rfl (v := .int (V 27 0)) rfl dX2_chosenSender_20 ?_
    refine j_if_ne cx (pc := 23) (tgt := 28) dX2_chosenSender_23 (by decide) (fun c23_2 => ?_) (fun c23_2 => ?_)
    · skip
      refine j_aload_n cx (pc := 28) dX2_chosenSender_28 0 rfl ?_
      refine j_get cx (pc := 29) 0 0 rfl rfl (C := RX2) (T := TX2) (N := 12) rfl hinX2 5 (by decide) f9 rfl (v := .ref (ad 1)) rfl dX2_chosenSender_29 ?_
      refine j_iconst cx (pc := 32) (v := (nI 2)) dX2_chosenSender_32 (by decide) ?_
      refine j_iald cx (pc := 33) 0 1 0 rfl rfl rfl (by decide) (by decide) dX2_chosenSender_33 ?_
      refine j_if_ne cx (pc := 34) (tgt := 48) dX2_chosenSender_34 (by decide) (fun c34_3 => ?_) (fun c34_3 => ?_)
      · skip
        refine j_iconst cx (pc := 48) (v := (nI 0)) dX2_chosenSender_48 (by decide) ?_
        subst hQ; exact j_iret cx hr (by simp only [C2_chosenSender, if_neg c9_1, if_neg c23_2, if_neg c34_3]) rfl hA dX2_chosenSender_49
      · skip
        refine j_aload_n cx (pc := 37) dX2_chosenSender_37 0 rfl ?_
        refine j_get cx (pc := 38) 0 0 rfl rfl (C := RX2) (T := TX2) (N := 12) rfl hinX2 2 (by decide) f60 rfl (v := .int (V 0 2)) rfl dX2_chosenSender_38 ?_
        refine j_if_ne cx (pc := 41) (tgt := 48) dX2_chosenSender_41 (by decide) (fun c41_4 => ?_) (fun c41_4 => ?_)
        · skip
          refine j_iconst cx (pc := 48) (v := (nI 0)) dX2_chosenSender_48 (by decide) ?_
          subst hQ; exact j_iret cx hr (by simp only [C2_chosenSender, if_neg c9_1, if_neg c23_2, if_pos c34_3, if_neg c41_4]) rfl hA dX2_chosenSender_49
        · skip
          refine j_iconst cx (pc := 44) (v := (nI 1)) dX2_chosenSender_44 (by decide) ?_
          refine j_goto cx (pc := 45) (tgt := 49) dX2_chosenSender_45 (by decide) ?_
          subst hQ; exact j_iret cx hr (by simp only [C2_chosenSender, if_neg c9_1, if_neg c23_2, if_pos c34_3, if_pos c41_4]) rfl hA dX2_chosenSender_49
    · skip
      refine j_iconst cx (pc := 26) (v := (nI 1)) dX2_chosenSender_26 (by decide) ?_
      subst hQ; exact j_iret cx hr (by simp only [C2_chosenSender, if_neg c9_1, if_pos c23_2]) rfl hA dX2_chosenSender_27
  · skip
    refine j_iconst cx (pc := 12) (v := (nI 0)) dX2_chosenSender_12 (by decide) ?_
    subst hQ; exact j_iret cx hr (by simp only [C2_chosenSender, if_pos c9_1]) rfl hA dX2_chosenSender_13
theorem cs_or (V : Nat → Nat → Int32) : C2_chosenSender V = nI 0 ∨ C2_chosenSender V = nI 1 := by
  unfold C2_chosenSender
  repeat' split
  all_goals first | exact Or.inl rfl | exact Or.inr rfl
theorem cs_tN (V : Nat → Nat → Int32) : C2_chosenSender V = nI (tN (C2_chosenSender V)) ∧ tN (C2_chosenSender V) < 2 := by
  rcases cs_or V with h | h <;> rw [h] <;> decide
def C2_letOneGo (V : Nat → Nat → Int32)  : Int32 × (Nat → Nat → Int32) :=
  let sd := tN (C2_chosenSender V)
  let V1 := rwS V sd (C5_removeFirst (rwU V sd) ).2
  if ((C5_removeFirst (rwU V sd) ).1) = (-1) then
    ((-1), V1)
  else
    let V2 := up1 V1 0 2 (nI sd)
    let V3 := up1 V2 3 ((tN (V 0 3)) % 8) ((nI (sd * 16)) + ((C5_removeFirst (rwU V sd) ).1))
    let V4 := up1 V3 0 3 ((V3 0 3) + (nI 1))
    (((nI (sd * 16)) + ((C5_removeFirst (rwU V sd) ).1)), V4)
set_option maxHeartbeats 4000000 in
set_option maxRecDepth 100000 in
theorem c_X2_letOneGo (l : Launch) (D : va_G) (Y : Nat → ClassId) (ad : Nat → Nat) (V : Nat → Nat → Int32)  (hof : ¬ V 0 3 < 0) (hr0 : vp_in (V 27 0) 21) (hr1 : vp_in (V 28 0) 21) (hh : chOK (chU V)) : CtI l yX2_letOneGo wsX2_letOneGo 1 22 D (tyL Y) (LB Y ad V) [.ref (ad 0)] (C2_letOneGo V ).1 (LB Y ad (C2_letOneGo V ).2) := by
  refine CtI.intro (own := RX2) (cc := cX2_letOneGo) (maxL := 4) rfl (by decide +kernel) rfl (Nat.le_of_ble_eq_true rfl) (fun p e s m args below meth c A Q hA hQ cx hr => ?_)
  have hinX2 : ∀ w ∈ wsX20, w ∈ wsX2_letOneGo := by decide +kernel
  have f26 : Cond.fieldLink RX2 26 "FourPhases$Line" "rows" "[LFourPhases$Row;" ∈ wsX2_letOneGo := by decide +kernel
  have f44 : Cond.fieldLink RX2 44 "FourPhases$Line" "offered" "[I" ∈ wsX2_letOneGo := by decide +kernel
  have f60 : Cond.fieldLink RX2 60 "FourPhases$Line" "latestSender" "I" ∈ wsX2_letOneGo := by decide +kernel
  have f63 : Cond.fieldLink RX2 63 "FourPhases$Line" "offeredWords" "I" ∈ wsX2_letOneGo := by decide +kernel
  have h31 : tN (V 0 3) < 2 ^ 31 := tN_lt _
  have h8 : tN (V 0 3) % 8 < 8 := Nat.mod_lt _ (by decide)
  refine j_aload_n cx (pc := 0) dX2_letOneGo_0 0 rfl ?_
  refine j_calli cx (pc := 1) 0 (c_X2_chosenSender l D Y ad V  ) gX2_letOneGo_X2_chosenSender rfl (by decide +kernel) rfl ⟨Nat.le_of_ble_eq_true rfl, Nat.le_of_ble_eq_true rfl⟩ [0, 1, 2, 3, 4, 5, 6, 7, 8, 9, 10, 11] rfl (by decide) (Bs' := LB Y ad V) rfl rfl 0 0 rfl rfl rfl rfl (Nat.le_of_ble_eq_true rfl) dX2_letOneGo_1 ⟨Nat.zero_le _, Nat.zero_le _⟩ ?_
  obtain ⟨sd, hsd⟩ : ∃ z : Nat, z = tN (C2_chosenSender V) := ⟨_, rfl⟩
  have hsd1 : C2_chosenSender V = nI sd := by rw [hsd]; exact (cs_tN V).1
  have hsd2 : sd < 2 := by rw [hsd]; exact (cs_tN V).2
  refine j_top (show (C2_chosenSender V ) = (nI sd) from hsd1) ?_
  refine j_istore_n cx (pc := 4) (lv' := [(1, .int (nI sd)), (0, .ref (ad 0))]) dX2_letOneGo_4 (by decide) rfl ?_
  refine j_aload_n cx (pc := 5) dX2_letOneGo_5 1 rfl ?_
  refine j_get cx (pc := 6) 0 0 rfl rfl (C := RX2) (T := TX2) (N := 12) rfl hinX2 8 (by decide) f26 rfl (v := .ref (ad 4)) rfl dX2_letOneGo_6 ?_
  refine j_iload_n cx (pc := 9) dX2_letOneGo_9 0 rfl ?_
  refine j_aald cx (pc := 10) 0 4 4 rfl rfl rfl (by omega) (by decide) (a' := (ad (27 + 2 * sd))) rfl dX2_letOneGo_10 ?_
  obtain ⟨V1, hV1⟩ : ∃ z, z = rwS V sd (C5_removeFirst (rwU V sd) ).2 := ⟨_, rfl⟩
  have okV1 : chOK (chU V1) := by rw [hV1]; exact ok_rwS hh
  refine j_calli cx (pc := 11) 0 (c_X5_removeFirst l D Y (ad (27 + 2 * sd)) (ad (28 + 2 * sd)) (rwU V sd)  (rw_ok hr0 hr1 hsd2)) gX2_letOneGo_X5_removeFirst rfl (by decide +kernel) rfl ⟨Nat.le_of_ble_eq_true rfl, Nat.le_of_ble_eq_true rfl⟩ [(10 + sd)] (LB_rw_sel Y ad V hsd2) rfl (Bs' := LB Y ad V1) (by rw [hV1]; exact P1_rw Y ad V (C5_removeFirst (rwU V sd) ).2 (k := sd) hsd2) A1_rw (10 + sd) 0 (LB_rw Y ad V hsd2) rfl rfl rfl (Nat.le_of_ble_eq_true rfl) dX2_letOneGo_11 ⟨Nat.zero_le _, Nat.zero_le _⟩ ?_
  refine j_istore_n cx (pc := 14) (lv' := [(2, .int ((C5_removeFirst (rwU V sd) ).1)), (1, .int (nI sd)), (0, .ref (ad 0))]) dX2_letOneGo_14 (by decide) rfl ?_
  refine j_iload_n cx (pc := 15) dX2_letOneGo_15 0 rfl ?_
  refine j_iconst cx (pc := 16) (v := (-1)) dX2_letOneGo_16 (by decide) ?_
  refine j_icmp_ne cx (pc := 17) (tgt := 22) dX2_letOneGo_17 (by decide) (fun c17_1 => ?_) (fun c17_1 => ?_)
  · skip
    refine j_iload_n cx (pc := 22) dX2_letOneGo_22 1 rfl ?_
    refine j_bipush cx (pc := 23) (v := (nI 16)) dX2_letOneGo_23 (by decide) ?_
    refine j_imulN cx (pc := 25) dX2_letOneGo_25 ?_
    refine j_iload_n cx (pc := 26) dX2_letOneGo_26 0 rfl ?_
    refine j_iadd cx (pc := 27) dX2_letOneGo_27 ?_
    refine j_istore_n cx (pc := 28) (lv' := [(3, .int ((nI (sd * 16)) + ((C5_removeFirst (rwU V sd) ).1))), (2, .int ((C5_removeFirst (rwU V sd) ).1)), (1, .int (nI sd)), (0, .ref (ad 0))]) dX2_letOneGo_28 (by decide) rfl ?_
    refine j_aload_n cx (pc := 29) dX2_letOneGo_29 3 rfl ?_
    refine j_iload_n cx (pc := 30) dX2_letOneGo_30 2 rfl ?_
    obtain ⟨V2, hV2⟩ : ∃ z, z = up1 V1 0 2 (nI sd) := ⟨_, rfl⟩
    have okV2 : chOK (chU V2) := by rw [hV2]; exact okc_set (by omega) okV1
    refine j_put cx (pc := 31) 0 0 rfl rfl (C := RX2) (T := TX2) (N := 12) rfl hinX2 tyX2 tyX2_ok nmX2 2 (by decide) f60 rfl rfl rfl rfl (Nat.le_of_ble_eq_true rfl) (Bs' := LB Y ad V2) (by rw [hV2]; rfl) dX2_letOneGo_31 ?_
    refine j_aload_n cx (pc := 34) dX2_letOneGo_34 3 rfl ?_
    refine j_get cx (pc := 35) 0 0 rfl rfl (C := RX2) (T := TX2) (N := 12) rfl hinX2 11 (by decide) f44 rfl (v := .ref (ad 12)) rfl dX2_letOneGo_35 ?_
    refine j_aload_n cx (pc := 38) dX2_letOneGo_38 3 rfl ?_
    refine j_get cx (pc := 39) 0 0 rfl rfl (C := RX2) (T := TX2) (N := 12) rfl hinX2 3 (by decide) f63 rfl (v := .int (V2 0 3)) rfl dX2_letOneGo_39 ?_
    have e3 : V2 0 3 = nI (tN (V 0 3)) := by rw [hV2, hV1]; show setC (setC V (27 + sd) _) (25 + sd) _ 0 3 = _; rw [setC_ne (by omega), setC_ne (by omega)]; exact inG hof
    refine j_top (show (V2 0 3) = (nI (tN (V 0 3))) from e3) ?_
    refine j_bipush cx (pc := 42) (v := (nI 8)) dX2_letOneGo_42 (by decide) ?_
    refine j_iremN cx (pc := 44) (by omega) (by omega) (by omega) dX2_letOneGo_44 ?_
    refine j_iload_n cx (pc := 45) dX2_letOneGo_45 0 rfl ?_
    obtain ⟨V3, hV3⟩ : ∃ z, z = up1 V2 3 ((tN (V 0 3)) % 8) ((nI (sd * 16)) + ((C5_removeFirst (rwU V sd) ).1)) := ⟨_, rfl⟩
    have okV3 : chOK (chU V3) := by rw [hV3]; exact okc_set (by omega) okV2
    refine j_iast cx (pc := 46) 0 5 0 rfl rfl rfl (by omega) (by decide) (Bs' := LB Y ad V3) (by rw [hV3]; rfl) dX2_letOneGo_46 ?_
    refine j_aload_n cx (pc := 47) dX2_letOneGo_47 3 rfl ?_
    refine j_dup cx (pc := 48) dX2_letOneGo_48 rfl ?_
    refine j_get cx (pc := 49) 0 0 rfl rfl (C := RX2) (T := TX2) (N := 12) rfl hinX2 3 (by decide) f63 rfl (v := .int (V3 0 3)) rfl dX2_letOneGo_49 ?_
    refine j_iconst cx (pc := 52) (v := (nI 1)) dX2_letOneGo_52 (by decide) ?_
    refine j_iadd cx (pc := 53) dX2_letOneGo_53 ?_
    obtain ⟨V4, hV4⟩ : ∃ z, z = up1 V3 0 3 ((V3 0 3) + (nI 1)) := ⟨_, rfl⟩
    have okV4 : chOK (chU V4) := by rw [hV4]; exact okc_set (by omega) okV3
    refine j_put cx (pc := 54) 0 0 rfl rfl (C := RX2) (T := TX2) (N := 12) rfl hinX2 tyX2 tyX2_ok nmX2 3 (by decide) f63 rfl rfl rfl rfl (Nat.le_of_ble_eq_true rfl) (Bs' := LB Y ad V4) (by rw [hV4]; rfl) dX2_letOneGo_54 ?_
    refine j_iload_n cx (pc := 57) dX2_letOneGo_57 0 rfl ?_
    subst hQ; exact j_iret cx hr (by subst hV4; subst hV3; subst hV2; subst hV1; subst hsd; simp only [C2_letOneGo, if_neg c17_1]) (by subst hV4; subst hV3; subst hV2; subst hV1; subst hsd; simp only [C2_letOneGo, if_neg c17_1]) hA dX2_letOneGo_58
  · skip
    refine j_iconst cx (pc := 20) (v := (-1)) dX2_letOneGo_20 (by decide) ?_
    subst hQ; exact j_iret cx hr (by subst hV1; subst hsd; simp only [C2_letOneGo, if_pos c17_1]) (by subst hV1; subst hsd; simp only [C2_letOneGo, if_pos c17_1]) hA dX2_letOneGo_21
