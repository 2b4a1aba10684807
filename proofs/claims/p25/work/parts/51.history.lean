theorem hs_up {F : Nat → Nat → Nat → Int32} {i : Nat} {x : Int32} (h : ∀ k : Nat, k < 4 → tN (F 8 1 k) < 4) (hx : tN x < 4) : ∀ k : Nat, k < 4 → tN (setF F 8 (up1 (F 8) 1 i x) 8 1 k) < 4 := by
  intro k hk
  have e : setF F 8 (up1 (F 8) 1 i x) 8 1 k = if k = i then x else F 8 1 k := by rw [setF_eq]; rfl
  rw [e]
  by_cases c : k = i
  · rw [if_pos c]; exact hx
  · rw [if_neg c]; exact h k hk
def C1_dropOldest (F : Nat → Nat → Nat → Int32)  : Nat → Nat → Nat → Int32 :=
  let V1 := setF F 8 (up1 (F 8) 1 0 (F 8 1 1))
  let V2 := setF V1 8 (up1 (V1 8) 1 1 (V1 8 1 2))
  let V3 := setF V2 8 (up1 (V2 8) 1 2 (V2 8 1 3))
  let V4 := setF V3 8 (up1 (V3 8) 1 3 (F 8 1 0))
  let V5 := setF V4 8 (up1 (V4 8) 0 0 (nI 3))
  V5
set_option maxHeartbeats 4000000 in
set_option maxRecDepth 100000 in
theorem c_X1_dropOldest (l : Launch) (D : va_G) (Y : Nat → ClassId) (ad : Nat → Nat → Nat) (F : Nat → Nat → Nat → Int32)  (hh : hiOK F) : CtV l yX1_dropOldest wsX1_dropOldest 0 0 D (tyL Y) (HB Y ad F) [.ref (ad 8 0)] (HB Y ad (C1_dropOldest F )) := by
  refine CtV.intro (own := RX1) (cc := cX1_dropOldest) (maxL := 3) rfl (by decide +kernel) rfl (Nat.le_of_ble_eq_true rfl) (fun p e s m args below meth c A Q hA hQ cx hr => ?_)
  have hinX1 : ∀ w ∈ wsX10, w ∈ wsX1_dropOldest := by decide +kernel
  have f11 : Cond.fieldLink RX1 11 "FourPhases$History" "states" "[LFourPhases$Line;" ∈ wsX1_dropOldest := by decide +kernel
  have f18 : Cond.fieldLink RX1 18 "FourPhases$History" "count" "I" ∈ wsX1_dropOldest := by decide +kernel
  refine j_aload_n cx (pc := 0) dX1_dropOldest_0 0 rfl ?_
  refine j_get cx (pc := 1) 0 0 rfl rfl (C := RX1) (T := TX1) (N := 2) rfl hinX1 0 (by decide) f11 rfl (v := .ref (ad 8 1)) rfl dX1_dropOldest_1 ?_
  refine j_iconst cx (pc := 4) (v := (nI 0)) dX1_dropOldest_4 (by decide) ?_
  refine j_aald cx (pc := 5) 0 1 2 rfl rfl rfl (by decide) (by decide) (a' := (ad (3 + tN (F 8 1 0)) 0)) rfl dX1_dropOldest_5 ?_
  refine j_astore_n cx (pc := 6) (lv' := [(1, .ref (ad (3 + tN (F 8 1 0)) 0)), (0, .ref (ad 8 0))]) dX1_dropOldest_6 (by decide) rfl ?_
  refine j_iconst cx (pc := 7) (v := (nI 1)) dX1_dropOldest_7 (by decide) ?_
  refine j_istore_n cx (pc := 8) (lv' := [(2, .int (nI 1)), (1, .ref (ad (3 + tN (F 8 1 0)) 0)), (0, .ref (ad 8 0))]) dX1_dropOldest_8 (by decide) rfl ?_
  refine j_iload_n cx (pc := 9) dX1_dropOldest_9 0 rfl ?_
  refine j_iconst cx (pc := 10) (v := (nI 4)) dX1_dropOldest_10 (by decide) ?_
  refine j_icmpN_ge cx (pc := 11) (by decide) (by decide) (tgt := 34) dX1_dropOldest_11 (by decide) (fun c11_1 => by exfalso; revert c11_1; decide) (fun c11_1 => ?_)
  refine j_aload_n cx (pc := 14) dX1_dropOldest_14 2 rfl ?_
  refine j_get cx (pc := 15) 0 0 rfl rfl (C := RX1) (T := TX1) (N := 2) rfl hinX1 0 (by decide) f11 rfl (v := .ref (ad 8 1)) rfl dX1_dropOldest_15 ?_
  refine j_iload_n cx (pc := 18) dX1_dropOldest_18 0 rfl ?_
  refine j_iconst cx (pc := 19) (v := (nI 1)) dX1_dropOldest_19 (by decide) ?_
  refine j_isubN cx (pc := 20) (by decide) dX1_dropOldest_20 ?_
  refine j_top (show nI (1 - 1) = nI 0 from rfl) ?_
  refine j_aload_n cx (pc := 21) dX1_dropOldest_21 2 rfl ?_
  refine j_get cx (pc := 22) 0 0 rfl rfl (C := RX1) (T := TX1) (N := 2) rfl hinX1 0 (by decide) f11 rfl (v := .ref (ad 8 1)) rfl dX1_dropOldest_22 ?_
  refine j_iload_n cx (pc := 25) dX1_dropOldest_25 0 rfl ?_
  refine j_aald cx (pc := 26) 0 1 2 rfl rfl rfl (by decide) (by decide) (a' := (ad (3 + tN (F 8 1 1)) 0)) rfl dX1_dropOldest_26 ?_
  obtain ⟨V1, hV1⟩ : ∃ z, z = setF F 8 (up1 (F 8) 1 0 (F 8 1 1)) := ⟨_, rfl⟩
  refine j_aast cx (pc := 27) 0 1 (13 + 12 * tN (F 8 1 1)) 0 2 2 rfl rfl rfl (HB_ln Y ad F ((hh.2) 1 (by decide))) rfl rfl (by decide) (by decide) (Bs' := HB Y ad V1) (by rw [hV1]; exact HB_up Y ad F 0 (F 8 1 1)) dX1_dropOldest_27 ?_
  have hsV1 : ∀ k : Nat, k < 4 → tN (V1 8 1 k) < 4 := by rw [hV1]; exact hs_up (i := 0) (hh.2) ((hh.2) 1 (by decide))
  refine j_iinc cx (pc := 28) (v := (nI 2)) (lv' := [(2, .int (nI 2)), (1, .ref (ad (3 + tN (F 8 1 0)) 0)), (0, .ref (ad 8 0))]) dX1_dropOldest_28 0 rfl rfl (by decide) rfl ?_
  refine j_goto cx (pc := 31) (tgt := 9) dX1_dropOldest_31 (by decide) ?_
  refine j_iload_n cx (pc := 9) dX1_dropOldest_9 0 rfl ?_
  refine j_iconst cx (pc := 10) (v := (nI 4)) dX1_dropOldest_10 (by decide) ?_
  refine j_icmpN_ge cx (pc := 11) (by decide) (by decide) (tgt := 34) dX1_dropOldest_11 (by decide) (fun c11_2 => by exfalso; revert c11_2; decide) (fun c11_2 => ?_)
  refine j_aload_n cx (pc := 14) dX1_dropOldest_14 2 rfl ?_
  refine j_get cx (pc := 15) 0 0 rfl rfl (C := RX1) (T := TX1) (N := 2) rfl hinX1 0 (by decide) f11 rfl (v := .ref (ad 8 1)) rfl dX1_dropOldest_15 ?_
  refine j_iload_n cx (pc := 18) dX1_dropOldest_18 0 rfl ?_
  refine j_iconst cx (pc := 19) (v := (nI 1)) dX1_dropOldest_19 (by decide) ?_
  refine j_isubN cx (pc := 20) (by decide) dX1_dropOldest_20 ?_
  refine j_top (show nI (2 - 1) = nI 1 from rfl) ?_
  refine j_aload_n cx (pc := 21) dX1_dropOldest_21 2 rfl ?_
  refine j_get cx (pc := 22) 0 0 rfl rfl (C := RX1) (T := TX1) (N := 2) rfl hinX1 0 (by decide) f11 rfl (v := .ref (ad 8 1)) rfl dX1_dropOldest_22 ?_
  refine j_iload_n cx (pc := 25) dX1_dropOldest_25 0 rfl ?_
  refine j_aald cx (pc := 26) 0 1 2 rfl rfl rfl (by decide) (by decide) (a' := (ad (3 + tN (V1 8 1 2)) 0)) rfl dX1_dropOldest_26 ?_
  obtain ⟨V2, hV2⟩ : ∃ z, z = setF V1 8 (up1 (V1 8) 1 1 (V1 8 1 2)) := ⟨_, rfl⟩
  refine j_aast cx (pc := 27) 0 1 (13 + 12 * tN (V1 8 1 2)) 0 2 2 rfl rfl rfl (HB_ln Y ad V1 (hsV1 2 (by decide))) rfl rfl (by decide) (by decide) (Bs' := HB Y ad V2) (by rw [hV2]; exact HB_up Y ad V1 1 (V1 8 1 2)) dX1_dropOldest_27 ?_
  have hsV2 : ∀ k : Nat, k < 4 → tN (V2 8 1 k) < 4 := by rw [hV2]; exact hs_up (i := 1) hsV1 (hsV1 2 (by decide))
  refine j_iinc cx (pc := 28) (v := (nI 3)) (lv' := [(2, .int (nI 3)), (1, .ref (ad (3 + tN (F 8 1 0)) 0)), (0, .ref (ad 8 0))]) dX1_dropOldest_28 0 rfl rfl (by decide) rfl ?_
  refine j_goto cx (pc := 31) (tgt := 9) dX1_dropOldest_31 (by decide) ?_
  refine j_iload_n cx (pc := 9) dX1_dropOldest_9 0 rfl ?_
  refine j_iconst cx (pc := 10) (v := (nI 4)) dX1_dropOldest_10 (by decide) ?_
  refine j_icmpN_ge cx (pc := 11) (by decide) (by decide) (tgt := 34) dX1_dropOldest_11 (by decide) (fun c11_3 => by exfalso; revert c11_3; decide) (fun c11_3 => ?_)
  refine j_aload_n cx (pc := 14) dX1_dropOldest_14 2 rfl ?_
  refine j_get cx (pc := 15) 0 0 rfl rfl (C := RX1) (T := TX1) (N := 2) rfl hinX1 0 (by decide) f11 rfl (v := .ref (ad 8 1)) rfl dX1_dropOldest_15 ?_
  refine j_iload_n cx (pc := 18) dX1_dropOldest_18 0 rfl ?_
  refine j_iconst cx (pc := 19) (v := (nI 1)) dX1_dropOldest_19 (by decide) ?_
  refine j_isubN cx (pc := 20) (by decide) dX1_dropOldest_20 ?_
  refine j_top (show nI (3 - 1) = nI 2 from rfl) ?_
  refine j_aload_n cx (pc := 21) dX1_dropOldest_21 2 rfl ?_
  refine j_get cx (pc := 22) 0 0 rfl rfl (C := RX1) (T := TX1) (N := 2) rfl hinX1 0 (by decide) f11 rfl (v := .ref (ad 8 1)) rfl dX1_dropOldest_22 ?_
  refine j_iload_n cx (pc := 25) dX1_dropOldest_25 0 rfl ?_
  refine j_aald cx (pc := 26) 0 1 2 rfl rfl rfl (by decide) (by decide) (a' := (ad (3 + tN (V2 8 1 3)) 0)) rfl dX1_dropOldest_26 ?_
  obtain ⟨V3, hV3⟩ : ∃ z, z = setF V2 8 (up1 (V2 8) 1 2 (V2 8 1 3)) := ⟨_, rfl⟩
  refine j_aast cx (pc := 27) 0 1 (13 + 12 * tN (V2 8 1 3)) 0 2 2 rfl rfl rfl (HB_ln Y ad V2 (hsV2 3 (by decide))) rfl rfl (by decide) (by decide) (Bs' := HB Y ad V3) (by rw [hV3]; exact HB_up Y ad V2 2 (V2 8 1 3)) dX1_dropOldest_27 ?_
  have hsV3 : ∀ k : Nat, k < 4 → tN (V3 8 1 k) < 4 := by rw [hV3]; exact hs_up (i := 2) hsV2 (hsV2 3 (by decide))
  refine j_iinc cx (pc := 28) (v := (nI 4)) (lv' := [(2, .int (nI 4)), (1, .ref (ad (3 + tN (F 8 1 0)) 0)), (0, .ref (ad 8 0))]) dX1_dropOldest_28 0 rfl rfl (by decide) rfl ?_
  refine j_goto cx (pc := 31) (tgt := 9) dX1_dropOldest_31 (by decide) ?_
  refine j_iload_n cx (pc := 9) dX1_dropOldest_9 0 rfl ?_
  refine j_iconst cx (pc := 10) (v := (nI 4)) dX1_dropOldest_10 (by decide) ?_
  refine j_icmpN_ge cx (pc := 11) (by decide) (by decide) (tgt := 34) dX1_dropOldest_11 (by decide) (fun c11_4 => ?_) (fun c11_4 => by exfalso; revert c11_4; decide)
  refine j_aload_n cx (pc := 34) dX1_dropOldest_34 2 rfl ?_
  refine j_get cx (pc := 35) 0 0 rfl rfl (C := RX1) (T := TX1) (N := 2) rfl hinX1 0 (by decide) f11 rfl (v := .ref (ad 8 1)) rfl dX1_dropOldest_35 ?_
  refine j_iconst cx (pc := 38) (v := (nI 3)) dX1_dropOldest_38 (by decide) ?_
  refine j_aload_n cx (pc := 39) dX1_dropOldest_39 1 rfl ?_
  obtain ⟨V4, hV4⟩ : ∃ z, z = setF V3 8 (up1 (V3 8) 1 3 (F 8 1 0)) := ⟨_, rfl⟩
  refine j_aast cx (pc := 40) 0 1 (13 + 12 * tN (F 8 1 0)) 0 2 2 rfl rfl rfl (HB_ln Y ad V3 ((hh.2) 0 (by decide))) rfl rfl (by decide) (by decide) (Bs' := HB Y ad V4) (by rw [hV4]; exact HB_up Y ad V3 3 (F 8 1 0)) dX1_dropOldest_40 ?_
  have hsV4 : ∀ k : Nat, k < 4 → tN (V4 8 1 k) < 4 := by rw [hV4]; exact hs_up (i := 3) hsV3 ((hh.2) 0 (by decide))
  refine j_aload_n cx (pc := 41) dX1_dropOldest_41 2 rfl ?_
  refine j_iconst cx (pc := 42) (v := (nI 3)) dX1_dropOldest_42 (by decide) ?_
  obtain ⟨V5, hV5⟩ : ∃ z, z = setF V4 8 (up1 (V4 8) 0 0 (nI 3)) := ⟨_, rfl⟩
  refine j_put cx (pc := 43) 0 0 rfl rfl (C := RX1) (T := TX1) (N := 2) rfl hinX1 tyX1 tyX1_ok nmX1 1 (by decide) f18 rfl rfl rfl rfl (Nat.le_of_ble_eq_true rfl) (Bs' := HB Y ad V5) (by rw [hV5]; rfl) dX1_dropOldest_43 ?_
  subst hQ; exact j_vret cx hr (by subst hV5; subst hV4; subst hV3; subst hV2; subst hV1; rfl) hA dX1_dropOldest_46
theorem hi_dropOldest {F : Nat → Nat → Nat → Int32} (h : hiOK F) : hiOK (C1_dropOldest F) ∧ C1_dropOldest F 8 0 0 = nI 3 := by
  refine ⟨⟨?_, ?_⟩, ?_⟩
  · show vp_in (nI 3) 5
    exact vp_in_nI' (by decide)
  · have h1 := hs_up (i := 0) h.2 (h.2 1 (by decide))
    have h2 := hs_up (i := 1) h1 (h1 2 (by decide))
    have h3 := hs_up (i := 2) h2 (h2 3 (by decide))
    exact hs_up (i := 3) h3 (h.2 0 (by decide))
  · rfl
theorem k_dropOldest (F : Nat → Nat → Nat → Int32) {a : Nat} (ha : a ≠ 8) : C1_dropOldest F a = F a := by
  unfold C1_dropOldest
  try dsimp only
  rw [setF_ne ha, setF_ne ha, setF_ne ha, setF_ne ha, setF_ne ha]
/-- the history's oldest state is dropped if there are 4 -/
def hsD (F : Nat → Nat → Nat → Int32) : Nat → Nat → Nat → Int32 := if nI 4 ≤ F 8 0 0 then C1_dropOldest F else F
def hsQ (F : Nat → Nat → Nat → Int32) : Nat := tN (hsD F 8 1 (tN (hsD F 8 0 0)))
def hsE (F : Nat → Nat → Nat → Int32) : Nat → Nat → Nat → Int32 := setF (hsD F) (3 + hsQ F) (C2_copyFrom (hsD F (3 + hsQ F)) (hsD F 0))
def C1_record (F : Nat → Nat → Nat → Int32) : Nat → Nat → Nat → Int32 := setF (hsE F) 8 (up1 (hsE F 8) 0 0 (hsE F 8 0 0 + nI 1))
theorem hi_D {F : Nat → Nat → Nat → Int32} (h : hiOK F) : hiOK (hsD F) ∧ tN (hsD F 8 0 0) < 4 := by
  unfold hsD
  by_cases c : nI 4 ≤ F 8 0 0
  · rw [if_pos c]; exact ⟨(hi_dropOldest h).1, by rw [(hi_dropOldest h).2]; decide⟩
  · rw [if_neg c]
    refine ⟨h, ?_⟩
    have e := inN h.1
    have l := inL h.1
    rcases Nat.lt_or_ge (tN (F 8 0 0)) 4 with q | q
    · exact q
    · exact absurd ((nI_leI (by decide) (by omega)).mpr q) (by rw [← e]; exact c)
theorem hq4 {F : Nat → Nat → Nat → Int32} (h : hiOK F) : hsQ F < 4 := (hi_D h).1.2 _ (hi_D h).2
theorem k_hsD (F : Nat → Nat → Nat → Int32) {a : Nat} (ha : a ≠ 8) : hsD F a = F a := by
  unfold hsD
  split
  · exact k_dropOldest F ha
  · rfl
theorem k_record {F : Nat → Nat → Nat → Int32} (h : hiOK F) {a : Nat} (ha : a ≠ 8) (h3 : a < 3 ∨ 6 < a) : C1_record F a = F a := by
  have := hq4 h
  unfold C1_record hsE
  rw [setF_ne ha, setF_ne (by omega)]
  exact k_hsD F ha
theorem k8_D (F : Nat → Nat → Nat → Int32) : hsD F 8 0 1 = F 8 0 1 := by
  unfold hsD
  split
  · rfl
  · rfl
theorem kC1_record {F : Nat → Nat → Nat → Int32} (h : hiOK F) : C1_record F 1 = F 1 ∧ C1_record F 2 = F 2 ∧ C1_record F 7 = F 7 ∧ C1_record F 8 0 1 = F 8 0 1 := by
  refine ⟨k_record h (by decide) (by decide), k_record h (by decide) (by decide), k_record h (by decide) (by decide), ?_⟩
  have e : C1_record F 8 0 1 = hsE F 8 0 1 := rfl
  rw [e]
  unfold hsE
  rw [setF_ne (by have := hq4 h; omega)]
  exact k8_D F
set_option maxHeartbeats 4000000 in
set_option maxRecDepth 100000 in
theorem c_X1_record (l : Launch) (D : va_G) (Y : Nat → ClassId) (ad : Nat → Nat → Nat) (F : Nat → Nat → Nat → Int32) (hh : hiOK F) (hb : boL (F 0)) : CtV l yX1_record wsX1_record 3 83 D (tyL Y) (HB Y ad F) [.ref (ad 8 0), .ref (ad 0 0)] (HB Y ad (C1_record F)) := by
  refine CtV.intro (own := RX1) (cc := cX1_record) (maxL := 2) rfl (by decide +kernel) rfl (Nat.le_of_ble_eq_true rfl) (fun p e s m args below meth c A Q hA hQ cx hr => ?_)
  have hinX1 : ∀ w ∈ wsX10, w ∈ wsX1_record := by decide +kernel
  have f11 : Cond.fieldLink RX1 11 "FourPhases$History" "states" "[LFourPhases$Line;" ∈ wsX1_record := by decide +kernel
  have f18 : Cond.fieldLink RX1 18 "FourPhases$History" "count" "I" ∈ wsX1_record := by decide +kernel
  have rest : J p l e { frames := 3, cells := 0, slots := 0, locals := 83 } s m args below meth c 2 D A 0 0 Q (HB Y ad (hsD F)) 12 [(0, .ref (ad 8 0)), (1, .ref (ad 0 0))] [] := by
    have hD := hi_D hh
    have hq := hq4 hh
    obtain ⟨G, hG⟩ : ∃ z, z = hsD F := ⟨_, rfl⟩
    have e1 : C1_record F = setF (setF G (3 + hsQ F) (C2_copyFrom (G (3 + hsQ F)) (G 0))) 8 (up1 (setF G (3 + hsQ F) (C2_copyFrom (G (3 + hsQ F)) (G 0)) 8) 0 0 (setF G (3 + hsQ F) (C2_copyFrom (G (3 + hsQ F)) (G 0)) 8 0 0 + nI 1)) := by rw [hG]; rfl
    have e2 : hsQ F = tN (G 8 1 (tN (G 8 0 0))) := by rw [hG]; rfl
    have e3 : G 0 = F 0 := by rw [hG]; exact k_hsD F (by decide)
    rw [← hG] at hD ⊢
    refine j_aload_n cx (pc := 12) dX1_record_12 0 rfl ?_
    refine j_get cx (pc := 13) 0 0 rfl rfl (C := RX1) (T := TX1) (N := 2) rfl hinX1 0 (by decide) f11 rfl (v := .ref (ad 8 1)) rfl dX1_record_13 ?_
    refine j_aload_n cx (pc := 16) dX1_record_16 0 rfl ?_
    refine j_get cx (pc := 17) 0 0 rfl rfl (C := RX1) (T := TX1) (N := 2) rfl hinX1 1 (by decide) f18 rfl (v := .int (G 8 0 0)) rfl dX1_record_17 ?_
    refine j_top (show G 8 0 0 = nI (tN (G 8 0 0)) from inN hD.1.1) ?_
    refine j_aald cx (pc := 20) 0 1 2 rfl rfl rfl hD.2 (by decide) (a' := ad (3 + hsQ F) 0) (by rw [e2]) dX1_record_20 ?_
    refine j_aload_n cx (pc := 21) dX1_record_21 1 rfl ?_
    obtain ⟨V1, hV1⟩ : ∃ z, z = setF G (3 + hsQ F) (C2_copyFrom (G (3 + hsQ F)) (G 0)) := ⟨_, rfl⟩
    refine j_callv cx (pc := 22) 1 (c_X2_copyFrom l D Y (ad (3 + hsQ F)) (G (3 + hsQ F)) (ad 0) (G 0) (by rw [e3]; exact hb)) gX1_record_X2_copyFrom rfl (by decide +kernel) rfl ⟨Nat.le_of_ble_eq_true rfl, Nat.le_of_ble_eq_true rfl⟩ (hbq_ (hsQ F) ++ hb0_) (HB_s1 Y ad G hq) (HB_nd1 hq) (Bs' := HB Y ad V1) (by rw [hV1]; exact HB_p1 Y ad G hq _) A2_ln (13 + 12 * hsQ F) 0 (HB_ln Y ad G hq) rfl rfl rfl (Nat.le_of_ble_eq_true rfl) dX1_record_22 ⟨Nat.zero_le _, Nat.zero_le _⟩ ?_
    refine j_aload_n cx (pc := 25) dX1_record_25 0 rfl ?_
    refine j_dup cx (pc := 26) dX1_record_26 rfl ?_
    refine j_get cx (pc := 27) 0 0 rfl rfl (C := RX1) (T := TX1) (N := 2) rfl hinX1 1 (by decide) f18 rfl (v := .int (V1 8 0 0)) rfl dX1_record_27 ?_
    refine j_iconst cx (pc := 30) (v := (nI 1)) dX1_record_30 (by decide) ?_
    refine j_iadd cx (pc := 31) dX1_record_31 ?_
    obtain ⟨V2, hV2⟩ : ∃ z, z = setF V1 8 (up1 (V1 8) 0 0 (V1 8 0 0 + nI 1)) := ⟨_, rfl⟩
    refine j_put cx (pc := 32) 0 0 rfl rfl (C := RX1) (T := TX1) (N := 2) rfl hinX1 tyX1 tyX1_ok nmX1 1 (by decide) f18 rfl rfl rfl rfl (Nat.le_of_ble_eq_true rfl) (Bs' := HB Y ad V2) (by rw [hV2]; rfl) dX1_record_32 ?_
    subst hQ; exact j_vret cx hr (by rw [hV2, hV1, e1]) hA dX1_record_35
  refine j_aload_n cx (pc := 0) dX1_record_0 0 rfl ?_
  refine j_get cx (pc := 1) 0 0 rfl rfl (C := RX1) (T := TX1) (N := 2) rfl hinX1 1 (by decide) f18 rfl (v := .int (F 8 0 0)) rfl dX1_record_1 ?_
  refine j_iconst cx (pc := 4) (v := (nI 4)) dX1_record_4 (by decide) ?_
  refine j_icmp_lt cx (pc := 5) (tgt := 12) dX1_record_5 (by decide) (fun c => ?_) (fun c => ?_)
  · refine j_bs (Bs' := HB Y ad (hsD F)) (by rw [hsD, if_neg (Int32.not_le.mpr c)]) ?_
    exact rest
  · refine j_aload_n cx (pc := 8) dX1_record_8 0 rfl ?_
    refine j_callv cx (pc := 9) 0 (c_X1_dropOldest l D Y ad F hh) gX1_record_X1_dropOldest rfl (by decide +kernel) rfl ⟨Nat.le_of_ble_eq_true rfl, Nat.le_of_ble_eq_true rfl⟩ (List.range 61) (sel_all (HB_len Y ad _)) nd_range61 (Bs' := HB Y ad (hsD F)) (by rw [hsD, if_pos (Int32.not_lt.mp c)]; exact put_all (HB_len Y ad _) (HB_len Y ad _)) A1_HB 0 0 rfl rfl rfl rfl (Nat.le_of_ble_eq_true rfl) dX1_record_9 ⟨Nat.zero_le _, Nat.zero_le _⟩ ?_
    exact rest
/-- the place of the latest state of the history -/
def hsG (F : Nat → Nat → Nat → Int32) : Nat := tN (F 8 1 (tN (F 8 0 0) - 1))
def C1_giveBack (F : Nat → Nat → Nat → Int32) : Int32 × (Nat → Nat → Nat → Int32) :=
  if 0 < F 8 0 0 then
    let V1 := setF F 8 (up1 (F 8) 0 0 (F 8 0 0 - nI 1))
    let V2 := setF V1 0 (C2_copyFrom (V1 0) (V1 (3 + hsG F)))
    ((V2 8 0 0), V2)
  else
    ((-5), F)
theorem kC1_giveBack (F : Nat → Nat → Nat → Int32) : (C1_giveBack F).2 1 = F 1 ∧ (C1_giveBack F).2 2 = F 2 ∧ (C1_giveBack F).2 7 = F 7 ∧ (C1_giveBack F).2 8 0 1 = F 8 0 1 := by
  unfold C1_giveBack
  split <;> exact ⟨rfl, rfl, rfl, rfl⟩
set_option maxHeartbeats 4000000 in
set_option maxRecDepth 100000 in
theorem c_X1_giveBack (l : Launch) (D : va_G) (Y : Nat → ClassId) (ad : Nat → Nat → Nat) (F : Nat → Nat → Nat → Int32) (hh : hiOK F) (hb : 0 < F 8 0 0 → boL (F (3 + hsG F))) : CtI l yX1_giveBack wsX1_giveBack 3 83 D (tyL Y) (HB Y ad F) [.ref (ad 8 0), .ref (ad 0 0)] (C1_giveBack F).1 (HB Y ad (C1_giveBack F).2) := by
  refine CtI.intro (own := RX1) (cc := cX1_giveBack) (maxL := 2) rfl (by decide +kernel) rfl (Nat.le_of_ble_eq_true rfl) (fun p e s m args below meth c A Q hA hQ cx hr => ?_)
  have hinX1 : ∀ w ∈ wsX10, w ∈ wsX1_giveBack := by decide +kernel
  have f11 : Cond.fieldLink RX1 11 "FourPhases$History" "states" "[LFourPhases$Line;" ∈ wsX1_giveBack := by decide +kernel
  have f18 : Cond.fieldLink RX1 18 "FourPhases$History" "count" "I" ∈ wsX1_giveBack := by decide +kernel
  refine j_aload_n cx (pc := 0) dX1_giveBack_0 0 rfl ?_
  refine j_get cx (pc := 1) 0 0 rfl rfl (C := RX1) (T := TX1) (N := 2) rfl hinX1 1 (by decide) f18 rfl (v := .int (F 8 0 0)) rfl dX1_giveBack_1 ?_
  refine j_if_gt cx (pc := 4) (tgt := 10) dX1_giveBack_4 (by decide) (fun c => ?_) (fun c => ?_)
  · have e0 := inN hh.1
    have hc1 : 0 < tN (F 8 0 0) := by
      rcases Nat.eq_zero_or_pos (tN (F 8 0 0)) with q | q
      · rw [e0, q] at c; exact absurd c (by decide)
      · exact q
    have hc5 := inL hh.1
    have hg : hsG F < 4 := hh.2 _ (by omega)
    refine j_aload_n cx (pc := 10) dX1_giveBack_10 0 rfl ?_
    refine j_dup cx (pc := 11) dX1_giveBack_11 rfl ?_
    refine j_get cx (pc := 12) 0 0 rfl rfl (C := RX1) (T := TX1) (N := 2) rfl hinX1 1 (by decide) f18 rfl (v := .int (F 8 0 0)) rfl dX1_giveBack_12 ?_
    refine j_iconst cx (pc := 15) (v := (nI 1)) dX1_giveBack_15 (by decide) ?_
    refine j_isub cx (pc := 16) dX1_giveBack_16 ?_
    obtain ⟨V1, hV1⟩ : ∃ z, z = setF F 8 (up1 (F 8) 0 0 (F 8 0 0 - nI 1)) := ⟨_, rfl⟩
    have e1 : V1 8 0 0 = nI (tN (F 8 0 0) - 1) := by rw [hV1]; show F 8 0 0 - nI 1 = _; rw [← pk_sub hc1, ← e0]
    have e2 : V1 8 1 = F 8 1 := by rw [hV1]; rfl
    refine j_put cx (pc := 17) 0 0 rfl rfl (C := RX1) (T := TX1) (N := 2) rfl hinX1 tyX1 tyX1_ok nmX1 1 (by decide) f18 rfl rfl rfl rfl (Nat.le_of_ble_eq_true rfl) (Bs' := HB Y ad V1) (by rw [hV1]; rfl) dX1_giveBack_17 ?_
    refine j_aload_n cx (pc := 20) dX1_giveBack_20 1 rfl ?_
    refine j_aload_n cx (pc := 21) dX1_giveBack_21 0 rfl ?_
    refine j_get cx (pc := 22) 0 0 rfl rfl (C := RX1) (T := TX1) (N := 2) rfl hinX1 0 (by decide) f11 rfl (v := .ref (ad 8 1)) rfl dX1_giveBack_22 ?_
    refine j_aload_n cx (pc := 25) dX1_giveBack_25 0 rfl ?_
    refine j_get cx (pc := 26) 0 0 rfl rfl (C := RX1) (T := TX1) (N := 2) rfl hinX1 1 (by decide) f18 rfl (v := .int (V1 8 0 0)) rfl dX1_giveBack_26 ?_
    refine j_top (show V1 8 0 0 = nI (tN (F 8 0 0) - 1) from e1) ?_
    refine j_aald cx (pc := 29) 0 1 2 rfl rfl rfl (by omega) (by decide) (a' := ad (3 + hsG F) 0) (by rw [e2]; rfl) dX1_giveBack_29 ?_
    obtain ⟨V2, hV2⟩ : ∃ z, z = setF V1 0 (C2_copyFrom (V1 0) (V1 (3 + hsG F))) := ⟨_, rfl⟩
    refine j_callv cx (pc := 30) 1 (c_X2_copyFrom l D Y (ad 0) (V1 0) (ad (3 + hsG F)) (V1 (3 + hsG F)) (by rw [hV1, setF_ne (by omega)]; exact hb c)) gX1_giveBack_X2_copyFrom rfl (by decide +kernel) rfl ⟨Nat.le_of_ble_eq_true rfl, Nat.le_of_ble_eq_true rfl⟩ (hb0_ ++ hbq_ (hsG F)) (HB_s2 Y ad V1 hg) (HB_nd2 hg) (Bs' := HB Y ad V2) (by rw [hV2]; exact HB_p2 Y ad V1 hg _) A2_ln 1 0 rfl rfl rfl rfl (Nat.le_of_ble_eq_true rfl) dX1_giveBack_30 ⟨Nat.zero_le _, Nat.zero_le _⟩ ?_
    refine j_aload_n cx (pc := 33) dX1_giveBack_33 0 rfl ?_
    refine j_get cx (pc := 34) 0 0 rfl rfl (C := RX1) (T := TX1) (N := 2) rfl hinX1 1 (by decide) f18 rfl (v := .int (V2 8 0 0)) rfl dX1_giveBack_34 ?_
    subst hQ; exact j_iret cx hr (by subst hV2; subst hV1; simp only [C1_giveBack, if_pos c]) (by subst hV2; subst hV1; simp only [C1_giveBack, if_pos c]) hA dX1_giveBack_37
  · refine j_bipush cx (pc := 7) (v := (-5)) dX1_giveBack_7 (by decide) ?_
    subst hQ; exact j_iret cx hr (by simp only [C1_giveBack, if_neg c]) (by simp only [C1_giveBack, if_neg c]) hA dX1_giveBack_9
