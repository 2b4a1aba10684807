/-- the state after k wires were looked at -/
def drT (M : Nat → Nat → Int32) (k : Nat) : Nat → Nat → Int32 := up1 (C8_putAside M) 1 (13 + k) ((C8_putAside M) 1 (13 + k) - nI 1)
def drS (M : Nat → Nat → Int32) : Nat → Nat → Nat → Int32
  | 0 => M
  | k + 1 => if drS M k 1 (13 + k) ≤ nI 1 then drS M k else C8_takeBack (C8_settle (drT (drS M k) k)).2
theorem dr_lt {M : Nat → Nat → Int32} {k j : Nat} (hj : j < 719) : C8_takeBack (C8_settle (drT M k)).2 1 j = M 1 j := by
  show setC _ 1 (cpN _ _ 719) 1 j = _
  rw [setC_eq]
  show (if j < 719 then (C8_settle (drT M k)).2 2 j else _) = _
  rw [if_pos hj, fr_settle (by decide)]
  show up1 (C8_putAside M) 1 _ _ 2 j = _
  rw [fr_up (by decide)]
  show setC M 2 (cpN (M 1) (M 2) 719) 2 j = _
  rw [setC_eq]
  exact if_pos hj
def L8_dearest  : Nat → Nat → Int32 → Int32 → (Nat → Nat → Int32) → Int32 × (Nat → Nat → Int32)
  | 0, k, best, least, M0 =>
      (best, M0)
  | q + 1, k, best, least, M0 =>
      if ((3 * (tN (M0 1 3))) + 3) ≤ k then
        (best, M0)
      else
        if (M0 1 (13 + k)) ≤ (nI 1) then
          L8_dearest q (k + 1) best least M0
        else
          let V1 := (C8_putAside M0 )
          let V2 := up1 V1 1 (13 + k) ((V1 1 (13 + k)) - (nI 1))
          let V3 := (C8_settle V2 ).2
          let V4 := (C8_takeBack V3 )
          if best = (-5) then
            L8_dearest q (k + 1) (nI ((10 * (k / 3)) + (k % 3))) ((C8_settle V2 ).1) V4
          else
            if least ≤ ((C8_settle V2 ).1) then
              L8_dearest q (k + 1) best least V4
            else
              L8_dearest q (k + 1) (nI ((10 * (k / 3)) + (k % 3))) ((C8_settle V2 ).1) V4
def C8_dearest (M : Nat → Nat → Int32)  : Int32 × (Nat → Nat → Int32) :=
  L8_dearest (24) 0 (-5) (nI 0) M
set_option maxHeartbeats 4000000 in
set_option maxRecDepth 100000 in
theorem c_X8_dearest (l : Launch) (D : va_G) (Y : Nat → ClassId) (mo : Nat → Nat) (M : Nat → Nat → Int32)  (hst : vp_in (M 1 3) 7) (hok : ∀ k : Nat, k < 3 * tN (M 1 3) + 3 → ¬ drS M k 1 (13 + k) ≤ nI 1 → setOK 5000 (drT (drS M k) k)) : CtI l yX8_dearest wsX8_dearest 6 144 D (tyL Y) ([moB Y mo M]) [.ref (mo 0)] (C8_dearest M ).1 ([moB Y mo ((C8_dearest M ).2)]) := by
  refine CtI.intro (own := RX8) (cc := cX8_dearest) (maxL := 6) rfl (by decide +kernel) rfl (Nat.le_of_ble_eq_true rfl) (fun p e s m args below meth c A Q hA hQ cx hr => ?_)
  have hinX8 : ∀ w ∈ wsX80, w ∈ wsX8_dearest := by decide +kernel
  have f7 : Cond.fieldLink RX8 7 "FourPhasesModel" "state" "[I" ∈ wsX8_dearest := by decide +kernel
  have hst7 : tN (M 1 3) < 7 := inL hst
  have loop : ∀ (q : Nat) (k : Nat) (best : Int32) (least : Int32) (M0 : Nat → Nat → Int32), (k + q = 24) → (M0 = drS M k) → (M0 1 3 = M 1 3) → L8_dearest q k best least M0 = C8_dearest M  → J p l e { frames := 6, cells := 0, slots := 0, locals := 144 } s m args below meth c 6 D A 0 0 Q ([moB Y mo M0]) 7 [(3, .int (nI k)), (1, .int best), (2, .int least), (0, .ref (mo 0))] [] := by
    intro q
    induction q with
    | zero =>
      intro k best least M0 hq hM0 h3 hS
      have hst0 : M0 1 3 = nI (tN (M0 1 3)) := by rw [h3]; exact inN hst
      have hst1 : tN (M0 1 3) = tN (M 1 3) := by rw [h3]
      refine j_iload_n cx (pc := 7) dX8_dearest_7 0 rfl ?_
      refine j_iconst cx (pc := 8) (v := (nI 3)) dX8_dearest_8 (by decide) ?_
      refine j_aload_n cx (pc := 9) dX8_dearest_9 3 rfl ?_
      refine j_get cx (pc := 10) 0 0 rfl rfl (C := RX8) (T := TX8) (N := 12) rfl hinX8 0 (by decide) f7 rfl (v := .ref (mo 1)) rfl dX8_dearest_10 ?_
      refine j_iconst cx (pc := 13) (v := (nI 3)) dX8_dearest_13 (by decide) ?_
      refine j_iald cx (pc := 14) 0 1 0 rfl rfl rfl (by decide) (by decide) dX8_dearest_14 ?_
      refine j_top (show (M0 1 3) = (nI (tN (M0 1 3))) from hst0) ?_
      refine j_imulN cx (pc := 15) dX8_dearest_15 ?_
      refine j_iconst cx (pc := 16) (v := (nI 3)) dX8_dearest_16 (by decide) ?_
      refine j_iaddN cx (pc := 17) dX8_dearest_17 ?_
      refine j_icmpN_ge cx (pc := 18) (by omega) (by omega) (tgt := 118) dX8_dearest_18 (by decide) (fun c18_1 => ?_) (fun c18_1 => by exfalso; omega)
      refine j_iload_n cx (pc := 118) dX8_dearest_118 1 rfl ?_
      subst hQ; exact j_iret cx hr (by rw [← hS]; simp only [L8_dearest]) (by rw [← hS]; simp only [L8_dearest]) hA dX8_dearest_119
    | succ q ih =>
      intro k best least M0 hq hM0 h3 hS
      have hst0 : M0 1 3 = nI (tN (M0 1 3)) := by rw [h3]; exact inN hst
      have hst1 : tN (M0 1 3) = tN (M 1 3) := by rw [h3]
      refine j_iload_n cx (pc := 7) dX8_dearest_7 0 rfl ?_
      refine j_iconst cx (pc := 8) (v := (nI 3)) dX8_dearest_8 (by decide) ?_
      refine j_aload_n cx (pc := 9) dX8_dearest_9 3 rfl ?_
      refine j_get cx (pc := 10) 0 0 rfl rfl (C := RX8) (T := TX8) (N := 12) rfl hinX8 0 (by decide) f7 rfl (v := .ref (mo 1)) rfl dX8_dearest_10 ?_
      refine j_iconst cx (pc := 13) (v := (nI 3)) dX8_dearest_13 (by decide) ?_
      refine j_iald cx (pc := 14) 0 1 0 rfl rfl rfl (by decide) (by decide) dX8_dearest_14 ?_
      refine j_top (show (M0 1 3) = (nI (tN (M0 1 3))) from hst0) ?_
      refine j_imulN cx (pc := 15) dX8_dearest_15 ?_
      refine j_iconst cx (pc := 16) (v := (nI 3)) dX8_dearest_16 (by decide) ?_
      refine j_iaddN cx (pc := 17) dX8_dearest_17 ?_
      refine j_icmpN_ge cx (pc := 18) (by omega) (by omega) (tgt := 118) dX8_dearest_18 (by decide) (fun c18_1 => ?_) (fun c18_1 => ?_)
      · skip
        refine j_iload_n cx (pc := 118) dX8_dearest_118 1 rfl ?_
        subst hQ; exact j_iret cx hr (by rw [← hS]; simp only [L8_dearest, if_pos c18_1]) (by rw [← hS]; simp only [L8_dearest, if_pos c18_1]) hA dX8_dearest_119
      · skip
        refine j_aload_n cx (pc := 21) dX8_dearest_21 3 rfl ?_
        refine j_get cx (pc := 22) 0 0 rfl rfl (C := RX8) (T := TX8) (N := 12) rfl hinX8 0 (by decide) f7 rfl (v := .ref (mo 1)) rfl dX8_dearest_22 ?_
        refine j_bipush cx (pc := 25) (v := (nI 13)) dX8_dearest_25 (by decide) ?_
        refine j_iload_n cx (pc := 27) dX8_dearest_27 0 rfl ?_
        refine j_iaddN cx (pc := 28) dX8_dearest_28 ?_
        refine j_iald cx (pc := 29) 0 1 0 rfl rfl rfl (by omega) (by decide) dX8_dearest_29 ?_
        refine j_iconst cx (pc := 30) (v := (nI 1)) dX8_dearest_30 (by decide) ?_
        refine j_icmp_le cx (pc := 31) (tgt := 112) dX8_dearest_31 (by decide) (fun c31_2 => ?_) (fun c31_2 => ?_)
        · skip
          refine j_iinc cx (pc := 112) (v := (nI (k + 1))) (lv' := [(3, .int (nI (k + 1))), (1, .int best), (2, .int least), (0, .ref (mo 0))]) dX8_dearest_112 0 rfl (show nI k + nI 1 = nI (k + 1) from nI_add _ _) (by decide) rfl ?_
          refine j_goto cx (pc := 115) (tgt := 7) dX8_dearest_115 (by decide) ?_
          refine j_lvm (lv' := [(3, .int (nI (k + 1))), (1, .int best), (2, .int least), (0, .ref (mo 0))]) (by intro z hz; simp only [List.mem_cons, List.not_mem_nil, or_false] at hz ⊢; rcases hz with rfl | rfl | rfl | rfl <;> simp) ?_
          exact ih (k + 1) best least M0 (by omega) (by show M0 = (if _ then _ else _); rw [if_pos (by rw [← hM0]; exact c31_2)]; exact hM0) h3 (by rw [← hS]; simp only [L8_dearest, if_neg (Nat.not_le.mpr c18_1), if_pos c31_2])
        · skip
          have hdr : setOK 5000 (drT M0 k) := by rw [hM0]; exact hok k (by omega) (by rw [← hM0]; exact c31_2)
          refine j_aload_n cx (pc := 34) dX8_dearest_34 3 rfl ?_
          obtain ⟨V1, hV1⟩ : ∃ z, z = (C8_putAside M0 ) := ⟨_, rfl⟩
          refine j_callv cx (pc := 35) 0 (c_X8_putAside l D Y mo M0  ) gX8_dearest_X8_putAside rfl (by decide +kernel) rfl ⟨Nat.le_of_ble_eq_true rfl, Nat.le_of_ble_eq_true rfl⟩ [0] rfl (by decide) (Bs' := [moB Y mo V1]) (by rw [hV1]; exact P1_mo M0 (C8_putAside M0 )) A1_mo 0 0 rfl rfl rfl rfl (Nat.le_of_ble_eq_true rfl) dX8_dearest_35 ⟨Nat.zero_le _, Nat.zero_le _⟩ ?_
          refine j_aload_n cx (pc := 38) dX8_dearest_38 3 rfl ?_
          refine j_get cx (pc := 39) 0 0 rfl rfl (C := RX8) (T := TX8) (N := 12) rfl hinX8 0 (by decide) f7 rfl (v := .ref (mo 1)) rfl dX8_dearest_39 ?_
          refine j_bipush cx (pc := 42) (v := (nI 13)) dX8_dearest_42 (by decide) ?_
          refine j_iload_n cx (pc := 44) dX8_dearest_44 0 rfl ?_
          refine j_iaddN cx (pc := 45) dX8_dearest_45 ?_
          refine j_dup2 cx (pc := 46) dX8_dearest_46 rfl rfl ?_
          refine j_iald cx (pc := 47) 0 1 0 rfl rfl rfl (by omega) (by decide) dX8_dearest_47 ?_
          refine j_iconst cx (pc := 48) (v := (nI 1)) dX8_dearest_48 (by decide) ?_
          refine j_isub cx (pc := 49) dX8_dearest_49 ?_
          obtain ⟨V2, hV2⟩ : ∃ z, z = up1 V1 1 (13 + k) ((V1 1 (13 + k)) - (nI 1)) := ⟨_, rfl⟩
          refine j_iast cx (pc := 50) 0 1 0 rfl rfl rfl (by omega) (by decide) (Bs' := [moB Y mo V2]) (by rw [hV2]; rfl) dX8_dearest_50 ?_
          refine j_aload_n cx (pc := 51) dX8_dearest_51 3 rfl ?_
          obtain ⟨V3, hV3⟩ : ∃ z, z = (C8_settle V2 ).2 := ⟨_, rfl⟩
          refine j_calli cx (pc := 52) 0 (c_X8_settle l D Y mo V2  (by rw [hV2]; rw [hV1]; exact hdr)) gX8_dearest_X8_settle rfl (by decide +kernel) rfl ⟨Nat.le_of_ble_eq_true rfl, Nat.le_of_ble_eq_true rfl⟩ [0] rfl (by decide) (Bs' := [moB Y mo V3]) (by rw [hV3]; exact P1_mo V2 (C8_settle V2 ).2) A1_mo 0 0 rfl rfl rfl rfl (Nat.le_of_ble_eq_true rfl) dX8_dearest_52 ⟨Nat.zero_le _, Nat.zero_le _⟩ ?_
          refine j_istore cx (pc := 55) (lv' := [(4, .int ((C8_settle V2 ).1)), (3, .int (nI k)), (1, .int best), (2, .int least), (0, .ref (mo 0))]) dX8_dearest_55 (by decide) rfl ?_
          refine j_aload_n cx (pc := 57) dX8_dearest_57 4 rfl ?_
          obtain ⟨V4, hV4⟩ : ∃ z, z = (C8_takeBack V3 ) := ⟨_, rfl⟩
          refine j_callv cx (pc := 58) 0 (c_X8_takeBack l D Y mo V3  ) gX8_dearest_X8_takeBack rfl (by decide +kernel) rfl ⟨Nat.le_of_ble_eq_true rfl, Nat.le_of_ble_eq_true rfl⟩ [0] rfl (by decide) (Bs' := [moB Y mo V4]) (by rw [hV4]; exact P1_mo V3 (C8_takeBack V3 )) A1_mo 0 0 rfl rfl rfl rfl (Nat.le_of_ble_eq_true rfl) dX8_dearest_58 ⟨Nat.zero_le _, Nat.zero_le _⟩ ?_
          refine j_iload_n cx (pc := 61) dX8_dearest_61 2 rfl ?_
          refine j_bipush cx (pc := 62) (v := (-5)) dX8_dearest_62 (by decide) ?_
          refine j_icmp_eq cx (pc := 64) (tgt := 73) dX8_dearest_64 (by decide) (fun c64_3 => ?_) (fun c64_3 => ?_)
          · skip
            refine j_iconst cx (pc := 73) (v := (nI 1)) dX8_dearest_73 (by decide) ?_
            refine j_goto cx (pc := 74) (tgt := 78) dX8_dearest_74 (by decide) ?_
            refine j_istore cx (pc := 78) (lv' := [(5, .int (nI 1)), (4, .int ((C8_settle V2 ).1)), (3, .int (nI k)), (1, .int best), (2, .int least), (0, .ref (mo 0))]) dX8_dearest_78 (by decide) rfl ?_
            refine j_iload cx (pc := 80) dX8_dearest_80 0 rfl ?_
            refine j_ifN_eq cx (pc := 82) (by decide) (tgt := 98) dX8_dearest_82 (by decide) (fun c82_4 => by exfalso; revert c82_4; decide) (fun c82_4 => ?_)
            refine j_bipush cx (pc := 85) (v := (nI 10)) dX8_dearest_85 (by decide) ?_
            refine j_iload_n cx (pc := 87) dX8_dearest_87 2 rfl ?_
            refine j_iconst cx (pc := 88) (v := (nI 3)) dX8_dearest_88 (by decide) ?_
            refine j_idivN cx (pc := 89) (by omega) (by omega) (by omega) dX8_dearest_89 ?_
            refine j_imulN cx (pc := 90) dX8_dearest_90 ?_
            refine j_iload_n cx (pc := 91) dX8_dearest_91 2 rfl ?_
            refine j_iconst cx (pc := 92) (v := (nI 3)) dX8_dearest_92 (by decide) ?_
            refine j_iremN cx (pc := 93) (by omega) (by omega) (by omega) dX8_dearest_93 ?_
            refine j_iaddN cx (pc := 94) dX8_dearest_94 ?_
            refine j_goto cx (pc := 95) (tgt := 99) dX8_dearest_95 (by decide) ?_
            refine j_istore_n cx (pc := 99) (lv' := [(1, .int (nI ((10 * (k / 3)) + (k % 3)))), (5, .int (nI 1)), (4, .int ((C8_settle V2 ).1)), (3, .int (nI k)), (2, .int least), (0, .ref (mo 0))]) dX8_dearest_99 (by decide) rfl ?_
            refine j_iload cx (pc := 100) dX8_dearest_100 1 rfl ?_
            refine j_ifN_eq cx (pc := 102) (by decide) (tgt := 110) dX8_dearest_102 (by decide) (fun c102_5 => by exfalso; revert c102_5; decide) (fun c102_5 => ?_)
            refine j_iload cx (pc := 105) dX8_dearest_105 2 rfl ?_
            refine j_goto cx (pc := 107) (tgt := 111) dX8_dearest_107 (by decide) ?_
            refine j_istore_n cx (pc := 111) (lv' := [(2, .int ((C8_settle V2 ).1)), (1, .int (nI ((10 * (k / 3)) + (k % 3)))), (5, .int (nI 1)), (4, .int ((C8_settle V2 ).1)), (3, .int (nI k)), (0, .ref (mo 0))]) dX8_dearest_111 (by decide) rfl ?_
            refine j_iinc cx (pc := 112) (v := (nI (k + 1))) (lv' := [(3, .int (nI (k + 1))), (2, .int ((C8_settle V2 ).1)), (1, .int (nI ((10 * (k / 3)) + (k % 3)))), (5, .int (nI 1)), (4, .int ((C8_settle V2 ).1)), (0, .ref (mo 0))]) dX8_dearest_112 4 rfl (show nI k + nI 1 = nI (k + 1) from nI_add _ _) (by decide) rfl ?_
            refine j_goto cx (pc := 115) (tgt := 7) dX8_dearest_115 (by decide) ?_
            refine j_lvm (lv' := [(3, .int (nI (k + 1))), (1, .int (nI ((10 * (k / 3)) + (k % 3)))), (2, .int ((C8_settle V2 ).1)), (0, .ref (mo 0))]) (by intro z hz; simp only [List.mem_cons, List.not_mem_nil, or_false] at hz ⊢; rcases hz with rfl | rfl | rfl | rfl <;> simp) ?_
            exact ih (k + 1) (nI ((10 * (k / 3)) + (k % 3))) ((C8_settle V2 ).1) V4 (by omega) (by show V4 = (if _ then _ else _); rw [if_neg (by rw [← hM0]; exact c31_2), ← hM0]; rw [hV4]; rw [hV3]; rw [hV2]; rw [hV1]; rfl) (by rw [hV4]; rw [hV3]; rw [hV2]; rw [hV1]; exact (dr_lt (M := M0) (k := k) (by decide)).trans h3) (by subst hV4; subst hV3; subst hV2; subst hV1; rw [← hS]; simp only [L8_dearest, if_neg (Nat.not_le.mpr c18_1), if_neg c31_2, if_pos c64_3])
          · skip
            refine j_iload cx (pc := 67) dX8_dearest_67 0 rfl ?_
            refine j_iload_n cx (pc := 69) dX8_dearest_69 3 rfl ?_
            refine j_icmp_ge cx (pc := 70) (tgt := 77) dX8_dearest_70 (by decide) (fun c70_6 => ?_) (fun c70_6 => ?_)
            · skip
              refine j_iconst cx (pc := 77) (v := (nI 0)) dX8_dearest_77 (by decide) ?_
              refine j_istore cx (pc := 78) (lv' := [(5, .int (nI 0)), (4, .int ((C8_settle V2 ).1)), (3, .int (nI k)), (1, .int best), (2, .int least), (0, .ref (mo 0))]) dX8_dearest_78 (by decide) rfl ?_
              refine j_iload cx (pc := 80) dX8_dearest_80 0 rfl ?_
              refine j_ifN_eq cx (pc := 82) (by decide) (tgt := 98) dX8_dearest_82 (by decide) (fun c82_7 => ?_) (fun c82_7 => by exfalso; revert c82_7; decide)
              refine j_iload_n cx (pc := 98) dX8_dearest_98 3 rfl ?_
              refine j_istore_n cx (pc := 99) (lv' := [(1, .int best), (5, .int (nI 0)), (4, .int ((C8_settle V2 ).1)), (3, .int (nI k)), (2, .int least), (0, .ref (mo 0))]) dX8_dearest_99 (by decide) rfl ?_
              refine j_iload cx (pc := 100) dX8_dearest_100 1 rfl ?_
              refine j_ifN_eq cx (pc := 102) (by decide) (tgt := 110) dX8_dearest_102 (by decide) (fun c102_8 => ?_) (fun c102_8 => by exfalso; revert c102_8; decide)
              refine j_iload_n cx (pc := 110) dX8_dearest_110 4 rfl ?_
              refine j_istore_n cx (pc := 111) (lv' := [(2, .int least), (1, .int best), (5, .int (nI 0)), (4, .int ((C8_settle V2 ).1)), (3, .int (nI k)), (0, .ref (mo 0))]) dX8_dearest_111 (by decide) rfl ?_
              refine j_iinc cx (pc := 112) (v := (nI (k + 1))) (lv' := [(3, .int (nI (k + 1))), (2, .int least), (1, .int best), (5, .int (nI 0)), (4, .int ((C8_settle V2 ).1)), (0, .ref (mo 0))]) dX8_dearest_112 4 rfl (show nI k + nI 1 = nI (k + 1) from nI_add _ _) (by decide) rfl ?_
              refine j_goto cx (pc := 115) (tgt := 7) dX8_dearest_115 (by decide) ?_
              refine j_lvm (lv' := [(3, .int (nI (k + 1))), (1, .int best), (2, .int least), (0, .ref (mo 0))]) (by intro z hz; simp only [List.mem_cons, List.not_mem_nil, or_false] at hz ⊢; rcases hz with rfl | rfl | rfl | rfl <;> simp) ?_
              exact ih (k + 1) best least V4 (by omega) (by show V4 = (if _ then _ else _); rw [if_neg (by rw [← hM0]; exact c31_2), ← hM0]; rw [hV4]; rw [hV3]; rw [hV2]; rw [hV1]; rfl) (by rw [hV4]; rw [hV3]; rw [hV2]; rw [hV1]; exact (dr_lt (M := M0) (k := k) (by decide)).trans h3) (by subst hV4; subst hV3; subst hV2; subst hV1; rw [← hS]; simp only [L8_dearest, if_neg (Nat.not_le.mpr c18_1), if_neg c31_2, if_neg c64_3, if_pos c70_6])
            · skip
              refine j_iconst cx (pc := 73) (v := (nI 1)) dX8_dearest_73 (by decide) ?_
              refine j_goto cx (pc := 74) (tgt := 78) dX8_dearest_74 (by decide) ?_
              refine j_istore cx (pc := 78) (lv' := [(5, .int (nI 1)), (4, .int ((C8_settle V2 ).1)), (3, .int (nI k)), (1, .int best), (2, .int least), (0, .ref (mo 0))]) dX8_dearest_78 (by decide) rfl ?_
              refine j_iload cx (pc := 80) dX8_dearest_80 0 rfl ?_
              refine j_ifN_eq cx (pc := 82) (by decide) (tgt := 98) dX8_dearest_82 (by decide) (fun c82_9 => by exfalso; revert c82_9; decide) (fun c82_9 => ?_)
              refine j_bipush cx (pc := 85) (v := (nI 10)) dX8_dearest_85 (by decide) ?_
              refine j_iload_n cx (pc := 87) dX8_dearest_87 2 rfl ?_
              refine j_iconst cx (pc := 88) (v := (nI 3)) dX8_dearest_88 (by decide) ?_
              refine j_idivN cx (pc := 89) (by omega) (by omega) (by omega) dX8_dearest_89 ?_
              refine j_imulN cx (pc := 90) dX8_dearest_90 ?_
              refine j_iload_n cx (pc := 91) dX8_dearest_91 2 rfl ?_
              refine j_iconst cx (pc := 92) (v := (nI 3)) dX8_dearest_92 (by decide) ?_
              refine j_iremN cx (pc := 93) (by omega) (by omega) (by omega) dX8_dearest_93 ?_
              refine j_iaddN cx (pc := 94) dX8_dearest_94 ?_
              refine j_goto cx (pc := 95) (tgt := 99) dX8_dearest_95 (by decide) ?_
              refine j_istore_n cx (pc := 99) (lv' := [(1, .int (nI ((10 * (k / 3)) + (k % 3)))), (5, .int (nI 1)), (4, .int ((C8_settle V2 ).1)), (3, .int (nI k)), (2, .int least), (0, .ref (mo 0))]) dX8_dearest_99 (by decide) rfl ?_
              refine j_iload cx (pc := 100) dX8_dearest_100 1 rfl ?_
              refine j_ifN_eq cx (pc := 102) (by decide) (tgt := 110) dX8_dearest_102 (by decide) (fun c102_10 => by exfalso; revert c102_10; decide) (fun c102_10 => ?_)
              refine j_iload cx (pc := 105) dX8_dearest_105 2 rfl ?_
              refine j_goto cx (pc := 107) (tgt := 111) dX8_dearest_107 (by decide) ?_
              refine j_istore_n cx (pc := 111) (lv' := [(2, .int ((C8_settle V2 ).1)), (1, .int (nI ((10 * (k / 3)) + (k % 3)))), (5, .int (nI 1)), (4, .int ((C8_settle V2 ).1)), (3, .int (nI k)), (0, .ref (mo 0))]) dX8_dearest_111 (by decide) rfl ?_
              refine j_iinc cx (pc := 112) (v := (nI (k + 1))) (lv' := [(3, .int (nI (k + 1))), (2, .int ((C8_settle V2 ).1)), (1, .int (nI ((10 * (k / 3)) + (k % 3)))), (5, .int (nI 1)), (4, .int ((C8_settle V2 ).1)), (0, .ref (mo 0))]) dX8_dearest_112 4 rfl (show nI k + nI 1 = nI (k + 1) from nI_add _ _) (by decide) rfl ?_
              refine j_goto cx (pc := 115) (tgt := 7) dX8_dearest_115 (by decide) ?_
              refine j_lvm (lv' := [(3, .int (nI (k + 1))), (1, .int (nI ((10 * (k / 3)) + (k % 3)))), (2, .int ((C8_settle V2 ).1)), (0, .ref (mo 0))]) (by intro z hz; simp only [List.mem_cons, List.not_mem_nil, or_false] at hz ⊢; rcases hz with rfl | rfl | rfl | rfl <;> simp) ?_
              exact ih (k + 1) (nI ((10 * (k / 3)) + (k % 3))) ((C8_settle V2 ).1) V4 (by omega) (by show V4 = (if _ then _ else _); rw [if_neg (by rw [← hM0]; exact c31_2), ← hM0]; rw [hV4]; rw [hV3]; rw [hV2]; rw [hV1]; rfl) (by rw [hV4]; rw [hV3]; rw [hV2]; rw [hV1]; exact (dr_lt (M := M0) (k := k) (by decide)).trans h3) (by subst hV4; subst hV3; subst hV2; subst hV1; rw [← hS]; simp only [L8_dearest, if_neg (Nat.not_le.mpr c18_1), if_neg c31_2, if_neg c64_3, if_neg c70_6])
  refine j_bipush cx (pc := 0) (v := (-5)) dX8_dearest_0 (by decide) ?_
  refine j_istore_n cx (pc := 2) (lv' := [(1, .int (-5)), (0, .ref (mo 0))]) dX8_dearest_2 (by decide) rfl ?_
  refine j_iconst cx (pc := 3) (v := (nI 0)) dX8_dearest_3 (by decide) ?_
  refine j_istore_n cx (pc := 4) (lv' := [(2, .int (nI 0)), (1, .int (-5)), (0, .ref (mo 0))]) dX8_dearest_4 (by decide) rfl ?_
  refine j_iconst cx (pc := 5) (v := (nI 0)) dX8_dearest_5 (by decide) ?_
  refine j_istore_n cx (pc := 6) (lv' := [(3, .int (nI 0)), (2, .int (nI 0)), (1, .int (-5)), (0, .ref (mo 0))]) dX8_dearest_6 (by decide) rfl ?_
  refine j_lvm (lv' := [(3, .int (nI 0)), (1, .int (-5)), (2, .int (nI 0)), (0, .ref (mo 0))]) (by intro z hz; simp only [List.mem_cons, List.not_mem_nil, or_false] at hz ⊢; rcases hz with rfl | rfl | rfl | rfl <;> simp) ?_
  exact loop (24) 0 (-5) (nI 0) M rfl rfl rfl (by rfl)
