def doOK (M : Nat → Nat → Int32) : Prop := vp_in (M 1 11) 21 ∧ vp_in (M 1 12) 21 ∧ vp_in (M 1 9) 20 ∧ vp_in (M 1 10) 99 ∧ (¬ C8_within (M 0 6) (nI 1) (nI 1000) = 0 → (M 1 4) + (M 0 6) ≤ nI 1000000 → gtoOK ((M 1 4) + (M 0 6)) 5000 M) ∧ vp_in (M 1 3) 7
/-- the orders are done to their end within so many -/
def mpOK : Nat → (Nat → Nat → Int32) → Prop
  | 0, _ => False
  | q + 1, M => vp_in (M 0 0) 5 ∧ (¬ M 0 2 ≤ M 0 3 → (∃ n : Nat, n ≤ 800000 ∧ mtOK M n) ∧ (¬ (C8_readsOrder M).1 = 0 → doOK (C8_readsOrder M).2 ∧ mpOK q (up1 (C8_doesOrder (C8_readsOrder M).2).2 0 3 ((C8_doesOrder (C8_readsOrder M).2).2 0 3 + nI 1))))
def L8_perform  : Nat → Nat → (Nat → Nat → Int32) → Int32 × (Nat → Nat → Int32)
  | 0, many, M0 =>
      ((-5), M0)
  | q + 1, many, M0 =>
      if (M0 0 2) ≤ (M0 0 3) then
        let V1 := (C8_push M0 )
        ((nI many), V1)
      else
        let V2 := (C8_readsOrder M0 ).2
        if ((C8_readsOrder M0 ).1) = 0 then
          let V3 := (C8_takeBack V2 )
          ((-2), V3)
        else
          let V4 := (C8_doesOrder V2 ).2
          if 0 ≤ ((C8_doesOrder V2 ).1) then
            let V5 := up1 V4 0 3 ((V4 0 3) + (nI 1))
            L8_perform q (many + 1) V5
          else
            if ((C8_doesOrder V2 ).1) = (-5) then
              let V6 := up1 V4 0 3 ((V4 0 3) + (nI 1))
              L8_perform q (many + 1) V6
            else
              let V7 := (C8_takeBack V4 )
              (((C8_doesOrder V2 ).1), V7)
def C8_perform (M : Nat → Nat → Int32)  : Int32 × (Nat → Nat → Int32) :=
  let V1 := (C8_findFault M ).2
  if ((C8_findFault M ).1) = (-5) then
    let V2 := (C8_putAside V1 )
    let V3 := up1 V2 0 3 (nI 0)
    L8_perform (62) 0 V3
  else
    (((-100) - ((C8_findFault M ).1)), V1)
set_option maxHeartbeats 4000000 in
set_option maxRecDepth 100000 in
theorem c_X8_perform (l : Launch) (D : va_G) (Y : Nat → ClassId) (mo : Nat → Nat) (M : Nat → Nat → Int32)  (hff : ffOK 62 (up1 M 0 3 (nI 0))) (hok : (C8_findFault M).1 = (-5) → mpOK 62 (up1 (C8_putAside (C8_findFault M).2) 0 3 (nI 0))) : CtI l yX8_perform wsX8_perform 8 186 D (tyL Y) ([moB Y mo M]) [.ref (mo 0)] (C8_perform M ).1 ([moB Y mo ((C8_perform M ).2)]) := by
  refine CtI.intro (own := RX8) (cc := cX8_perform) (maxL := 4) rfl (by decide +kernel) rfl (Nat.le_of_ble_eq_true rfl) (fun p e s m args below meth c A Q hA hQ cx hr => ?_)
  have hinX8 : ∀ w ∈ wsX80, w ∈ wsX8_perform := by decide +kernel
  have f131 : Cond.fieldLink RX8 131 "FourPhasesModel" "length" "I" ∈ wsX8_perform := by decide +kernel
  have f134 : Cond.fieldLink RX8 134 "FourPhasesModel" "at" "I" ∈ wsX8_perform := by decide +kernel
  have loop : ∀ (q : Nat) (many : Nat) (M0 : Nat → Nat → Int32), (mpOK q M0) → L8_perform q many M0 = C8_perform M  → J p l e { frames := 8, cells := 0, slots := 0, locals := 186 } s m args below meth c 4 D A 0 0 Q ([moB Y mo M0]) 27 [(2, .int (nI many)), (0, .ref (mo 0))] [] := by
    intro q
    induction q with
    | zero =>
      intro many M0 hok hS
      exact hok.elim
    | succ q ih =>
      intro many M0 hok hS
      refine j_aload_n cx (pc := 27) dX8_perform_27 1 rfl ?_
      refine j_get cx (pc := 28) 0 0 rfl rfl (C := RX8) (T := TX8) (N := 12) rfl hinX8 8 (by decide) f134 rfl (v := .int (M0 0 3)) rfl dX8_perform_28 ?_
      refine j_aload_n cx (pc := 31) dX8_perform_31 1 rfl ?_
      refine j_get cx (pc := 32) 0 0 rfl rfl (C := RX8) (T := TX8) (N := 12) rfl hinX8 7 (by decide) f131 rfl (v := .int (M0 0 2)) rfl dX8_perform_32 ?_
      refine j_icmp_ge cx (pc := 35) (tgt := 87) dX8_perform_35 (by decide) (fun c35_1 => ?_) (fun c35_1 => ?_)
      · skip
        refine j_aload_n cx (pc := 87) dX8_perform_87 1 rfl ?_
        obtain ⟨V1, hV1⟩ : ∃ z, z = (C8_push M0 ) := ⟨_, rfl⟩
        refine j_callv cx (pc := 88) 0 (c_X8_push l D Y mo M0  hok.1) gX8_perform_X8_push rfl (by decide +kernel) rfl ⟨Nat.le_of_ble_eq_true rfl, Nat.le_of_ble_eq_true rfl⟩ [0] rfl (by decide) (Bs' := [moB Y mo V1]) (by rw [hV1]; exact P1_mo M0 (C8_push M0 )) A1_mo 0 0 rfl rfl rfl rfl (Nat.le_of_ble_eq_true rfl) dX8_perform_88 ⟨Nat.zero_le _, Nat.zero_le _⟩ ?_
        refine j_iload_n cx (pc := 91) dX8_perform_91 0 rfl ?_
        subst hQ; exact j_iret cx hr (by subst hV1; rw [← hS]; simp only [L8_perform, if_pos c35_1]) (by subst hV1; rw [← hS]; simp only [L8_perform, if_pos c35_1]) hA dX8_perform_92
      · skip
        have hx1 := hok.2 c35_1
        obtain ⟨n, hnn, hm⟩ := hx1.1
        refine j_aload_n cx (pc := 38) dX8_perform_38 1 rfl ?_
        obtain ⟨V2, hV2⟩ : ∃ z, z = (C8_readsOrder M0 ).2 := ⟨_, rfl⟩
        refine j_calli cx (pc := 39) 0 (c_X8_readsOrder l D Y mo M0  n hm (by omega)) gX8_perform_X8_readsOrder rfl (by decide +kernel) rfl ⟨Nat.le_of_ble_eq_true rfl, Nat.le_of_ble_eq_true rfl⟩ [0] rfl (by decide) (Bs' := [moB Y mo V2]) (by rw [hV2]; exact P1_mo M0 (C8_readsOrder M0 ).2) A1_mo 0 0 rfl rfl rfl rfl (Nat.le_of_ble_eq_true rfl) dX8_perform_39 ⟨Nat.zero_le _, Nat.zero_le _⟩ ?_
        refine j_if_eq cx (pc := 42) (tgt := 52) dX8_perform_42 (by decide) (fun c42_2 => ?_) (fun c42_2 => ?_)
        · skip
          refine j_bipush cx (pc := 52) (v := (-2)) dX8_perform_52 (by decide) ?_
          refine j_istore_n cx (pc := 54) (lv' := [(3, .int (-2)), (2, .int (nI many)), (0, .ref (mo 0))]) dX8_perform_54 (by decide) rfl ?_
          refine j_iload_n cx (pc := 55) dX8_perform_55 0 rfl ?_
          refine j_if_ge cx (pc := 56) (tgt := 71) dX8_perform_56 (by decide) (fun c56_3 => by exfalso; revert c56_3; decide) (fun c56_3 => ?_)
          refine j_iload_n cx (pc := 59) dX8_perform_59 0 rfl ?_
          refine j_bipush cx (pc := 60) (v := (-5)) dX8_perform_60 (by decide) ?_
          refine j_icmp_eq cx (pc := 62) (tgt := 71) dX8_perform_62 (by decide) (fun c62_4 => by exfalso; revert c62_4; decide) (fun c62_4 => ?_)
          refine j_aload_n cx (pc := 65) dX8_perform_65 2 rfl ?_
          obtain ⟨V3, hV3⟩ : ∃ z, z = (C8_takeBack V2 ) := ⟨_, rfl⟩
          refine j_callv cx (pc := 66) 0 (c_X8_takeBack l D Y mo V2  ) gX8_perform_X8_takeBack rfl (by decide +kernel) rfl ⟨Nat.le_of_ble_eq_true rfl, Nat.le_of_ble_eq_true rfl⟩ [0] rfl (by decide) (Bs' := [moB Y mo V3]) (by rw [hV3]; exact P1_mo V2 (C8_takeBack V2 )) A1_mo 0 0 rfl rfl rfl rfl (Nat.le_of_ble_eq_true rfl) dX8_perform_66 ⟨Nat.zero_le _, Nat.zero_le _⟩ ?_
          refine j_iload_n cx (pc := 69) dX8_perform_69 0 rfl ?_
          subst hQ; exact j_iret cx hr (by subst hV3; subst hV2; rw [← hS]; simp only [L8_perform, if_neg c35_1, if_pos c42_2]) (by subst hV3; subst hV2; rw [← hS]; simp only [L8_perform, if_neg c35_1, if_pos c42_2]) hA dX8_perform_70
        · skip
          have hdo : doOK V2 := by rw [hV2]; exact (hx1.2 c42_2).1
          refine j_aload_n cx (pc := 45) dX8_perform_45 1 rfl ?_
          obtain ⟨V4, hV4⟩ : ∃ z, z = (C8_doesOrder V2 ).2 := ⟨_, rfl⟩
          refine j_calli cx (pc := 46) 0 (c_X8_doesOrder l D Y mo V2  hdo.1 hdo.2.1 hdo.2.2.1 hdo.2.2.2.1 hdo.2.2.2.2.1 hdo.2.2.2.2.2) gX8_perform_X8_doesOrder rfl (by decide +kernel) rfl ⟨Nat.le_of_ble_eq_true rfl, Nat.le_of_ble_eq_true rfl⟩ [0] rfl (by decide) (Bs' := [moB Y mo V4]) (by rw [hV4]; exact P1_mo V2 (C8_doesOrder V2 ).2) A1_mo 0 0 rfl rfl rfl rfl (Nat.le_of_ble_eq_true rfl) dX8_perform_46 ⟨Nat.zero_le _, Nat.zero_le _⟩ ?_
          refine j_goto cx (pc := 49) (tgt := 54) dX8_perform_49 (by decide) ?_
          refine j_istore_n cx (pc := 54) (lv' := [(3, .int ((C8_doesOrder V2 ).1)), (2, .int (nI many)), (0, .ref (mo 0))]) dX8_perform_54 (by decide) rfl ?_
          refine j_iload_n cx (pc := 55) dX8_perform_55 0 rfl ?_
          refine j_if_ge cx (pc := 56) (tgt := 71) dX8_perform_56 (by decide) (fun c56_5 => ?_) (fun c56_5 => ?_)
          · skip
            refine j_iinc cx (pc := 71) (v := (nI (many + 1))) (lv' := [(2, .int (nI (many + 1))), (3, .int ((C8_doesOrder V2 ).1)), (0, .ref (mo 0))]) dX8_perform_71 1 rfl (show nI many + nI 1 = nI (many + 1) from nI_add _ _) (by decide) rfl ?_
            refine j_aload_n cx (pc := 74) dX8_perform_74 2 rfl ?_
            refine j_dup cx (pc := 75) dX8_perform_75 rfl ?_
            refine j_get cx (pc := 76) 0 0 rfl rfl (C := RX8) (T := TX8) (N := 12) rfl hinX8 8 (by decide) f134 rfl (v := .int (V4 0 3)) rfl dX8_perform_76 ?_
            refine j_iconst cx (pc := 79) (v := (nI 1)) dX8_perform_79 (by decide) ?_
            refine j_iadd cx (pc := 80) dX8_perform_80 ?_
            obtain ⟨V5, hV5⟩ : ∃ z, z = up1 V4 0 3 ((V4 0 3) + (nI 1)) := ⟨_, rfl⟩
            refine j_put cx (pc := 81) 0 0 rfl rfl (C := RX8) (T := TX8) (N := 12) rfl hinX8 tyX8 tyX8_ok nmX8 8 (by decide) f134 rfl rfl rfl rfl (Nat.le_of_ble_eq_true rfl) (Bs' := [moB Y mo V5]) (by rw [hV5]; rfl) dX8_perform_81 ?_
            refine j_goto cx (pc := 84) (tgt := 27) dX8_perform_84 (by decide) ?_
            refine j_lvm (lv' := [(2, .int (nI (many + 1))), (0, .ref (mo 0))]) (by intro z hz; simp only [List.mem_cons, List.not_mem_nil, or_false] at hz ⊢; rcases hz with rfl | rfl <;> simp) ?_
            exact ih (many + 1) V5 (by subst hV5; subst hV4; subst hV2; exact (hx1.2 c42_2).2) (by subst hV5; subst hV4; subst hV2; rw [← hS]; simp only [L8_perform, if_neg c35_1, if_neg c42_2, if_pos c56_5])
          · skip
            refine j_iload_n cx (pc := 59) dX8_perform_59 0 rfl ?_
            refine j_bipush cx (pc := 60) (v := (-5)) dX8_perform_60 (by decide) ?_
            refine j_icmp_eq cx (pc := 62) (tgt := 71) dX8_perform_62 (by decide) (fun c62_6 => ?_) (fun c62_6 => ?_)
            · skip
              refine j_iinc cx (pc := 71) (v := (nI (many + 1))) (lv' := [(2, .int (nI (many + 1))), (3, .int ((C8_doesOrder V2 ).1)), (0, .ref (mo 0))]) dX8_perform_71 1 rfl (show nI many + nI 1 = nI (many + 1) from nI_add _ _) (by decide) rfl ?_
              refine j_aload_n cx (pc := 74) dX8_perform_74 2 rfl ?_
              refine j_dup cx (pc := 75) dX8_perform_75 rfl ?_
              refine j_get cx (pc := 76) 0 0 rfl rfl (C := RX8) (T := TX8) (N := 12) rfl hinX8 8 (by decide) f134 rfl (v := .int (V4 0 3)) rfl dX8_perform_76 ?_
              refine j_iconst cx (pc := 79) (v := (nI 1)) dX8_perform_79 (by decide) ?_
              refine j_iadd cx (pc := 80) dX8_perform_80 ?_
              obtain ⟨V6, hV6⟩ : ∃ z, z = up1 V4 0 3 ((V4 0 3) + (nI 1)) := ⟨_, rfl⟩
              refine j_put cx (pc := 81) 0 0 rfl rfl (C := RX8) (T := TX8) (N := 12) rfl hinX8 tyX8 tyX8_ok nmX8 8 (by decide) f134 rfl rfl rfl rfl (Nat.le_of_ble_eq_true rfl) (Bs' := [moB Y mo V6]) (by rw [hV6]; rfl) dX8_perform_81 ?_
              refine j_goto cx (pc := 84) (tgt := 27) dX8_perform_84 (by decide) ?_
              refine j_lvm (lv' := [(2, .int (nI (many + 1))), (0, .ref (mo 0))]) (by intro z hz; simp only [List.mem_cons, List.not_mem_nil, or_false] at hz ⊢; rcases hz with rfl | rfl <;> simp) ?_
              exact ih (many + 1) V6 (by subst hV6; subst hV4; subst hV2; exact (hx1.2 c42_2).2) (by subst hV6; subst hV4; subst hV2; rw [← hS]; simp only [L8_perform, if_neg c35_1, if_neg c42_2, if_neg c56_5, if_pos c62_6])
            · skip
              refine j_aload_n cx (pc := 65) dX8_perform_65 2 rfl ?_
              obtain ⟨V7, hV7⟩ : ∃ z, z = (C8_takeBack V4 ) := ⟨_, rfl⟩
              refine j_callv cx (pc := 66) 0 (c_X8_takeBack l D Y mo V4  ) gX8_perform_X8_takeBack rfl (by decide +kernel) rfl ⟨Nat.le_of_ble_eq_true rfl, Nat.le_of_ble_eq_true rfl⟩ [0] rfl (by decide) (Bs' := [moB Y mo V7]) (by rw [hV7]; exact P1_mo V4 (C8_takeBack V4 )) A1_mo 0 0 rfl rfl rfl rfl (Nat.le_of_ble_eq_true rfl) dX8_perform_66 ⟨Nat.zero_le _, Nat.zero_le _⟩ ?_
              refine j_iload_n cx (pc := 69) dX8_perform_69 0 rfl ?_
              subst hQ; exact j_iret cx hr (by subst hV7; subst hV4; subst hV2; rw [← hS]; simp only [L8_perform, if_neg c35_1, if_neg c42_2, if_neg c56_5, if_neg c62_6]) (by subst hV7; subst hV4; subst hV2; rw [← hS]; simp only [L8_perform, if_neg c35_1, if_neg c42_2, if_neg c56_5, if_neg c62_6]) hA dX8_perform_70
  refine j_aload_n cx (pc := 0) dX8_perform_0 0 rfl ?_
  obtain ⟨V1, hV1⟩ : ∃ z, z = (C8_findFault M ).2 := ⟨_, rfl⟩
  refine j_calli cx (pc := 1) 0 (c_X8_findFault l D Y mo M  hff) gX8_perform_X8_findFault rfl (by decide +kernel) rfl ⟨Nat.le_of_ble_eq_true rfl, Nat.le_of_ble_eq_true rfl⟩ [0] rfl (by decide) (Bs' := [moB Y mo V1]) (by rw [hV1]; exact P1_mo M (C8_findFault M ).2) A1_mo 0 0 rfl rfl rfl rfl (Nat.le_of_ble_eq_true rfl) dX8_perform_1 ⟨Nat.zero_le _, Nat.zero_le _⟩ ?_
  refine j_istore_n cx (pc := 4) (lv' := [(1, .int ((C8_findFault M ).1)), (0, .ref (mo 0))]) dX8_perform_4 (by decide) rfl ?_
  refine j_iload_n cx (pc := 5) dX8_perform_5 0 rfl ?_
  refine j_bipush cx (pc := 6) (v := (-5)) dX8_perform_6 (by decide) ?_
  refine j_icmp_eq cx (pc := 8) (tgt := 16) dX8_perform_8 (by decide) (fun c8_1 => ?_) (fun c8_1 => ?_)
  · skip
    refine j_aload_n cx (pc := 16) dX8_perform_16 1 rfl ?_
    obtain ⟨V2, hV2⟩ : ∃ z, z = (C8_putAside V1 ) := ⟨_, rfl⟩
    refine j_callv cx (pc := 17) 0 (c_X8_putAside l D Y mo V1  ) gX8_perform_X8_putAside rfl (by decide +kernel) rfl ⟨Nat.le_of_ble_eq_true rfl, Nat.le_of_ble_eq_true rfl⟩ [0] rfl (by decide) (Bs' := [moB Y mo V2]) (by rw [hV2]; exact P1_mo V1 (C8_putAside V1 )) A1_mo 0 0 rfl rfl rfl rfl (Nat.le_of_ble_eq_true rfl) dX8_perform_17 ⟨Nat.zero_le _, Nat.zero_le _⟩ ?_
    refine j_aload_n cx (pc := 20) dX8_perform_20 1 rfl ?_
    refine j_iconst cx (pc := 21) (v := (nI 0)) dX8_perform_21 (by decide) ?_
    obtain ⟨V3, hV3⟩ : ∃ z, z = up1 V2 0 3 (nI 0) := ⟨_, rfl⟩
    refine j_put cx (pc := 22) 0 0 rfl rfl (C := RX8) (T := TX8) (N := 12) rfl hinX8 tyX8 tyX8_ok nmX8 8 (by decide) f134 rfl rfl rfl rfl (Nat.le_of_ble_eq_true rfl) (Bs' := [moB Y mo V3]) (by rw [hV3]; rfl) dX8_perform_22 ?_
    refine j_iconst cx (pc := 25) (v := (nI 0)) dX8_perform_25 (by decide) ?_
    refine j_istore_n cx (pc := 26) (lv' := [(2, .int (nI 0)), (1, .int ((C8_findFault M ).1)), (0, .ref (mo 0))]) dX8_perform_26 (by decide) rfl ?_
    refine j_lvm (lv' := [(2, .int (nI 0)), (0, .ref (mo 0))]) (by intro z hz; simp only [List.mem_cons, List.not_mem_nil, or_false] at hz ⊢; rcases hz with rfl | rfl <;> simp) ?_
    exact loop (62) 0 V3 (by rw [hV3]; rw [hV2]; rw [hV1]; exact hok c8_1) (by subst hV3; subst hV2; subst hV1; simp only [C8_perform, if_pos c8_1])
  · skip
    refine j_bipush cx (pc := 11) (v := (-100)) dX8_perform_11 (by decide) ?_
    refine j_iload_n cx (pc := 13) dX8_perform_13 0 rfl ?_
    refine j_isub cx (pc := 14) dX8_perform_14 ?_
    subst hQ; exact j_iret cx hr (by subst hV1; simp only [C8_perform, if_neg c8_1]) (by subst hV1; simp only [C8_perform, if_neg c8_1]) hA dX8_perform_15
