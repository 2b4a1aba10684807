theorem cn_note {M : Nat → Nat → Int32} {n : Nat} (hn : vp_in (M 1 10) n) (h : n < 900 := by decide) : vp_in (C8_note M 1 10) (n + 1) := by
  have h1 : vp_in (setC M 1 (shl (M 1) 149 19) 1 10) n := e_setC (by show (if _ then _ else _) = _; exact if_neg (by omega)) hn
  have h2 := cn_up (i := 9) (x := (setC M 1 (shl (M 1) 149 19)) 1 9 - nI 1) (by omega) h1
  have h3 : ∀ (V : Nat → Nat → Int32), vp_in (V 1 10) n → vp_in (setC V 1 (sh3 (V 1) 2) 1 10) n := fun V hV => e_setC (by show (if _ then _ else _) = _; exact if_neg (by omega)) hV
  unfold C8_note
  split
  · exact cn_answer (cn_up (by omega) (cn_up (by omega) (cn_up (by omega) (cn_up (by omega) (cn_up (by omega) (h3 _ h2)))))) (show n < 1000 by omega)
  · exact cn_answer (cn_up (by omega) (cn_up (by omega) (cn_up (by omega) (cn_up (by omega) (cn_up (by omega) (h3 _ h2)))))) (show n < 1000 by omega)
def C8_letGo (M : Nat → Nat → Int32)  : Nat → Nat → Int32 :=
  if (M 1 76) = 0 then
    M
  else
    if ((M 1 11) + (M 1 12)) = 0 then
      M
    else
      if (M 1 11) = 0 then
        let V1 := setC M 1 (shl (M 1) 129 19)
        let V2 := up1 V1 1 12 ((V1 1 12) - (nI 1))
        let V3 := up1 V2 1 8 (nI 1)
        let V4 := up1 V3 1 (149 + (tN (M 1 9))) ((nI 16) + (M 1 129))
        let V5 := up1 V4 1 9 ((V4 1 9) + (nI 1))
        let V6 := (C8_offer V5 0 ((nI 16) + (M 1 129)))
        V6
      else
        if (M 1 12) ≤ 0 then
          let V9 := setC M 1 (shl (M 1) 109 19)
          let V10 := up1 V9 1 11 ((V9 1 11) - (nI 1))
          let V11 := up1 V10 1 8 (nI 0)
          let V12 := up1 V11 1 (149 + (tN (M 1 9))) ((nI 0) + (M 1 109))
          let V13 := up1 V12 1 9 ((V12 1 9) + (nI 1))
          let V14 := (C8_offer V13 0 ((nI 0) + (M 1 109)))
          V14
        else
          if (M 1 2) = 0 then
            if (M 1 8) = 0 then
              let V33 := setC M 1 (shl (M 1) 129 19)
              let V34 := up1 V33 1 12 ((V33 1 12) - (nI 1))
              let V35 := up1 V34 1 8 (nI 1)
              let V36 := up1 V35 1 (149 + (tN (M 1 9))) ((nI 16) + (M 1 129))
              let V37 := up1 V36 1 9 ((V36 1 9) + (nI 1))
              let V38 := (C8_offer V37 0 ((nI 16) + (M 1 129)))
              V38
            else
              let V25 := setC M 1 (shl (M 1) 109 19)
              let V26 := up1 V25 1 11 ((V25 1 11) - (nI 1))
              let V27 := up1 V26 1 8 (nI 0)
              let V28 := up1 V27 1 (149 + (tN (M 1 9))) ((nI 0) + (M 1 109))
              let V29 := up1 V28 1 9 ((V28 1 9) + (nI 1))
              let V30 := (C8_offer V29 0 ((nI 0) + (M 1 109)))
              V30
          else
            let V17 := setC M 1 (shl (M 1) 109 19)
            let V18 := up1 V17 1 11 ((V17 1 11) - (nI 1))
            let V19 := up1 V18 1 8 (nI 0)
            let V20 := up1 V19 1 (149 + (tN (M 1 9))) ((nI 0) + (M 1 109))
            let V21 := up1 V20 1 9 ((V20 1 9) + (nI 1))
            let V22 := (C8_offer V21 0 ((nI 0) + (M 1 109)))
            V22
set_option maxHeartbeats 4000000 in
set_option maxRecDepth 100000 in
theorem c_X8_letGo (l : Launch) (D : va_G) (Y : Nat → ClassId) (mo : Nat → Nat) (M : Nat → Nat → Int32)  (hpd : vp_in (M 1 9) 20) (hn : vp_in (M 1 10) 99) : CtV l yX8_letGo wsX8_letGo 2 47 D (tyL Y) ([moB Y mo M]) [.ref (mo 0)] ([moB Y mo (C8_letGo M )]) := by
  refine CtV.intro (own := RX8) (cc := cX8_letGo) (maxL := 8) rfl (by decide +kernel) rfl (Nat.le_of_ble_eq_true rfl) (fun p e s m args below meth c A Q hA hQ cx hr => ?_)
  have hinX8 : ∀ w ∈ wsX80, w ∈ wsX8_letGo := by decide +kernel
  have f7 : Cond.fieldLink RX8 7 "FourPhasesModel" "state" "[I" ∈ wsX8_letGo := by decide +kernel
  have hpd20 : tN (M 1 9) < 20 := inL hpd
  refine j_aload_n cx (pc := 0) dX8_letGo_0 0 rfl ?_
  refine j_get cx (pc := 1) 0 0 rfl rfl (C := RX8) (T := TX8) (N := 12) rfl hinX8 0 (by decide) f7 rfl (v := .ref (mo 1)) rfl dX8_letGo_1 ?_
  refine j_bipush cx (pc := 4) (v := (nI 11)) dX8_letGo_4 (by decide) ?_
  refine j_iald cx (pc := 6) 0 1 0 rfl rfl rfl (by decide) (by decide) dX8_letGo_6 ?_
  refine j_istore_n cx (pc := 7) (lv' := [(1, .int (M 1 11)), (0, .ref (mo 0))]) dX8_letGo_7 (by decide) rfl ?_
  refine j_aload_n cx (pc := 8) dX8_letGo_8 1 rfl ?_
  refine j_get cx (pc := 9) 0 0 rfl rfl (C := RX8) (T := TX8) (N := 12) rfl hinX8 0 (by decide) f7 rfl (v := .ref (mo 1)) rfl dX8_letGo_9 ?_
  refine j_bipush cx (pc := 12) (v := (nI 12)) dX8_letGo_12 (by decide) ?_
  refine j_iald cx (pc := 14) 0 1 0 rfl rfl rfl (by decide) (by decide) dX8_letGo_14 ?_
  refine j_istore_n cx (pc := 15) (lv' := [(2, .int (M 1 12)), (1, .int (M 1 11)), (0, .ref (mo 0))]) dX8_letGo_15 (by decide) rfl ?_
  refine j_aload_n cx (pc := 16) dX8_letGo_16 2 rfl ?_
  refine j_get cx (pc := 17) 0 0 rfl rfl (C := RX8) (T := TX8) (N := 12) rfl hinX8 0 (by decide) f7 rfl (v := .ref (mo 1)) rfl dX8_letGo_17 ?_
  refine j_bipush cx (pc := 20) (v := (nI 76)) dX8_letGo_20 (by decide) ?_
  refine j_iald cx (pc := 22) 0 1 0 rfl rfl rfl (by decide) (by decide) dX8_letGo_22 ?_
  refine j_if_eq cx (pc := 23) (tgt := 32) dX8_letGo_23 (by decide) (fun c23_1 => ?_) (fun c23_1 => ?_)
  · skip
    subst hQ; exact j_vret cx hr (by simp only [C8_letGo, if_pos c23_1]) hA dX8_letGo_32
  · skip
    refine j_iload_n cx (pc := 26) dX8_letGo_26 1 rfl ?_
    refine j_iload_n cx (pc := 27) dX8_letGo_27 0 rfl ?_
    refine j_iadd cx (pc := 28) dX8_letGo_28 ?_
    refine j_if_ne cx (pc := 29) (tgt := 33) dX8_letGo_29 (by decide) (fun c29_2 => ?_) (fun c29_2 => ?_)
    · skip
      refine j_iload_n cx (pc := 33) dX8_letGo_33 1 rfl ?_
      refine j_if_eq cx (pc := 34) (tgt := 60) dX8_letGo_34 (by decide) (fun c34_3 => ?_) (fun c34_3 => ?_)
      · skip
        refine j_iconst cx (pc := 60) (v := (nI 1)) dX8_letGo_60 (by decide) ?_
        refine j_goto cx (pc := 61) (tgt := 65) dX8_letGo_61 (by decide) ?_
        refine j_istore_n cx (pc := 65) (lv' := [(3, .int (nI 1)), (2, .int (M 1 12)), (1, .int (M 1 11)), (0, .ref (mo 0))]) dX8_letGo_65 (by decide) rfl ?_
        refine j_iload_n cx (pc := 66) dX8_letGo_66 0 rfl ?_
        refine j_ifN_eq cx (pc := 67) (by decide) (tgt := 74) dX8_letGo_67 (by decide) (fun c67_4 => by exfalso; revert c67_4; decide) (fun c67_4 => ?_)
        refine j_iconst cx (pc := 70) (v := (nI 1)) dX8_letGo_70 (by decide) ?_
        refine j_goto cx (pc := 71) (tgt := 75) dX8_letGo_71 (by decide) ?_
        refine j_istore cx (pc := 75) (lv' := [(4, .int (nI 1)), (3, .int (nI 1)), (2, .int (M 1 12)), (1, .int (M 1 11)), (0, .ref (mo 0))]) dX8_letGo_75 (by decide) rfl ?_
        refine j_bipush cx (pc := 77) (v := (nI 109)) dX8_letGo_77 (by decide) ?_
        refine j_bipush cx (pc := 79) (v := (nI 20)) dX8_letGo_79 (by decide) ?_
        refine j_iload cx (pc := 81) dX8_letGo_81 0 rfl ?_
        refine j_imulN cx (pc := 83) dX8_letGo_83 ?_
        refine j_top (show nI (20 * 1) = nI 20 from rfl) ?_
        refine j_iaddN cx (pc := 84) dX8_letGo_84 ?_
        refine j_top (show nI (109 + 20) = nI 129 from rfl) ?_
        refine j_istore cx (pc := 85) (lv' := [(5, .int (nI 129)), (4, .int (nI 1)), (3, .int (nI 1)), (2, .int (M 1 12)), (1, .int (M 1 11)), (0, .ref (mo 0))]) dX8_letGo_85 (by decide) rfl ?_
        refine j_bipush cx (pc := 87) (v := (nI 16)) dX8_letGo_87 (by decide) ?_
        refine j_iload cx (pc := 89) dX8_letGo_89 1 rfl ?_
        refine j_imulN cx (pc := 91) dX8_letGo_91 ?_
        refine j_top (show nI (16 * 1) = nI 16 from rfl) ?_
        refine j_aload_n cx (pc := 92) dX8_letGo_92 5 rfl ?_
        refine j_get cx (pc := 93) 0 0 rfl rfl (C := RX8) (T := TX8) (N := 12) rfl hinX8 0 (by decide) f7 rfl (v := .ref (mo 1)) rfl dX8_letGo_93 ?_
        refine j_iload cx (pc := 96) dX8_letGo_96 0 rfl ?_
        refine j_iald cx (pc := 98) 0 1 0 rfl rfl rfl (by decide) (by decide) dX8_letGo_98 ?_
        refine j_iadd cx (pc := 99) dX8_letGo_99 ?_
        refine j_istore cx (pc := 100) (lv' := [(6, .int ((nI 16) + (M 1 129))), (5, .int (nI 129)), (4, .int (nI 1)), (3, .int (nI 1)), (2, .int (M 1 12)), (1, .int (M 1 11)), (0, .ref (mo 0))]) dX8_letGo_100 (by decide) rfl ?_
        refine j_iconst cx (pc := 102) (v := (nI 0)) dX8_letGo_102 (by decide) ?_
        refine j_istore cx (pc := 103) (lv' := [(7, .int (nI 0)), (6, .int ((nI 16) + (M 1 129))), (5, .int (nI 129)), (4, .int (nI 1)), (3, .int (nI 1)), (2, .int (M 1 12)), (1, .int (M 1 11)), (0, .ref (mo 0))]) dX8_letGo_103 (by decide) rfl ?_
        have lp5 : ∀ (n i : Nat), i + n = 19 → 0 ≤ i → J p l e { frames := 2, cells := 0, slots := 0, locals := 47 } s m args below meth c 8 D A 0 0 Q ([moB Y mo (setC M 1 (shl (M 1) 129 i))]) 105 [(7, .int (nI i)), (6, .int ((nI 16) + (M 1 129))), (5, .int (nI 129)), (4, .int (nI 1)), (3, .int (nI 1)), (2, .int (M 1 12)), (1, .int (M 1 11)), (0, .ref (mo 0))] [] := by
          intro n
          induction n with
          | zero =>
            intro i hi h0
            have hi2 : i = 19 := by omega
            subst hi2
            obtain ⟨V1, hV1⟩ : ∃ z, z = setC M 1 (shl (M 1) 129 19) := ⟨_, rfl⟩
            have cnV1 : vp_in (V1 1 10) 99 := by rw [hV1]; exact e_setC (by show (if _ then _ else _) = _; exact if_neg (by omega)) hn
            refine j_bs (Bs' := [moB Y mo V1]) (by rw [hV1]) ?_
            refine j_iload cx (pc := 105) dX8_letGo_105 0 rfl ?_
            refine j_bipush cx (pc := 107) (v := (nI 19)) dX8_letGo_107 (by decide) ?_
            refine j_icmpN_ge cx (pc := 109) (by decide) (by decide) (tgt := 140) dX8_letGo_109 (by decide) (fun c109_6 => ?_) (fun c109_6 => by exfalso; revert c109_6; decide)
            refine j_aload_n cx (pc := 140) dX8_letGo_140 7 rfl ?_
            refine j_get cx (pc := 141) 0 0 rfl rfl (C := RX8) (T := TX8) (N := 12) rfl hinX8 0 (by decide) f7 rfl (v := .ref (mo 1)) rfl dX8_letGo_141 ?_
            refine j_bipush cx (pc := 144) (v := (nI 11)) dX8_letGo_144 (by decide) ?_
            refine j_iload cx (pc := 146) dX8_letGo_146 3 rfl ?_
            refine j_iaddN cx (pc := 148) dX8_letGo_148 ?_
            refine j_top (show nI (11 + 1) = nI 12 from rfl) ?_
            refine j_dup2 cx (pc := 149) dX8_letGo_149 rfl rfl ?_
            refine j_iald cx (pc := 150) 0 1 0 rfl rfl rfl (by decide) (by decide) dX8_letGo_150 ?_
            refine j_iconst cx (pc := 151) (v := (nI 1)) dX8_letGo_151 (by decide) ?_
            refine j_isub cx (pc := 152) dX8_letGo_152 ?_
            obtain ⟨V2, hV2⟩ : ∃ z, z = up1 V1 1 12 ((V1 1 12) - (nI 1)) := ⟨_, rfl⟩
            have cnV2 : vp_in (V2 1 10) 99 := by rw [hV2]; exact cn_up (by omega) cnV1
            refine j_iast cx (pc := 153) 0 1 0 rfl rfl rfl (by decide) (by decide) (Bs' := [moB Y mo V2]) (by rw [hV2]; rfl) dX8_letGo_153 ?_
            refine j_aload_n cx (pc := 154) dX8_letGo_154 7 rfl ?_
            refine j_get cx (pc := 155) 0 0 rfl rfl (C := RX8) (T := TX8) (N := 12) rfl hinX8 0 (by decide) f7 rfl (v := .ref (mo 1)) rfl dX8_letGo_155 ?_
            refine j_bipush cx (pc := 158) (v := (nI 8)) dX8_letGo_158 (by decide) ?_
            refine j_iload cx (pc := 160) dX8_letGo_160 3 rfl ?_
            obtain ⟨V3, hV3⟩ : ∃ z, z = up1 V2 1 8 (nI 1) := ⟨_, rfl⟩
            have cnV3 : vp_in (V3 1 10) 99 := by rw [hV3]; exact cn_up (by omega) cnV2
            refine j_iast cx (pc := 162) 0 1 0 rfl rfl rfl (by decide) (by decide) (Bs' := [moB Y mo V3]) (by rw [hV3]; rfl) dX8_letGo_162 ?_
            refine j_aload_n cx (pc := 163) dX8_letGo_163 7 rfl ?_
            refine j_get cx (pc := 164) 0 0 rfl rfl (C := RX8) (T := TX8) (N := 12) rfl hinX8 0 (by decide) f7 rfl (v := .ref (mo 1)) rfl dX8_letGo_164 ?_
            refine j_sipush cx (pc := 167) (v := (nI 149)) dX8_letGo_167 (by decide) ?_
            refine j_aload_n cx (pc := 170) dX8_letGo_170 7 rfl ?_
            refine j_get cx (pc := 171) 0 0 rfl rfl (C := RX8) (T := TX8) (N := 12) rfl hinX8 0 (by decide) f7 rfl (v := .ref (mo 1)) rfl dX8_letGo_171 ?_
            refine j_bipush cx (pc := 174) (v := (nI 9)) dX8_letGo_174 (by decide) ?_
            refine j_iald cx (pc := 176) 0 1 0 rfl rfl rfl (by decide) (by decide) dX8_letGo_176 ?_
            have e9 : V3 1 9 = nI (tN (M 1 9)) := by subst_vars; exact inN hpd
            refine j_top (show (V3 1 9) = (nI (tN (M 1 9))) from e9) ?_
            refine j_iaddN cx (pc := 177) dX8_letGo_177 ?_
            refine j_iload cx (pc := 178) dX8_letGo_178 1 rfl ?_
            obtain ⟨V4, hV4⟩ : ∃ z, z = up1 V3 1 (149 + (tN (M 1 9))) ((nI 16) + (M 1 129)) := ⟨_, rfl⟩
            have cnV4 : vp_in (V4 1 10) 99 := by rw [hV4]; exact cn_up (by omega) cnV3
            refine j_iast cx (pc := 180) 0 1 0 rfl rfl rfl (by omega) (by decide) (Bs' := [moB Y mo V4]) (by rw [hV4]; rfl) dX8_letGo_180 ?_
            refine j_aload_n cx (pc := 181) dX8_letGo_181 7 rfl ?_
            refine j_get cx (pc := 182) 0 0 rfl rfl (C := RX8) (T := TX8) (N := 12) rfl hinX8 0 (by decide) f7 rfl (v := .ref (mo 1)) rfl dX8_letGo_182 ?_
            refine j_bipush cx (pc := 185) (v := (nI 9)) dX8_letGo_185 (by decide) ?_
            refine j_dup2 cx (pc := 187) dX8_letGo_187 rfl rfl ?_
            refine j_iald cx (pc := 188) 0 1 0 rfl rfl rfl (by decide) (by decide) dX8_letGo_188 ?_
            refine j_iconst cx (pc := 189) (v := (nI 1)) dX8_letGo_189 (by decide) ?_
            refine j_iadd cx (pc := 190) dX8_letGo_190 ?_
            obtain ⟨V5, hV5⟩ : ∃ z, z = up1 V4 1 9 ((V4 1 9) + (nI 1)) := ⟨_, rfl⟩
            have cnV5 : vp_in (V5 1 10) 99 := by rw [hV5]; exact cn_up (by omega) cnV4
            refine j_iast cx (pc := 191) 0 1 0 rfl rfl rfl (by decide) (by decide) (Bs' := [moB Y mo V5]) (by rw [hV5]; rfl) dX8_letGo_191 ?_
            refine j_aload_n cx (pc := 192) dX8_letGo_192 7 rfl ?_
            refine j_iconst cx (pc := 193) (v := (nI 0)) dX8_letGo_193 (by decide) ?_
            refine j_iload cx (pc := 194) dX8_letGo_194 1 rfl ?_
            obtain ⟨V6, hV6⟩ : ∃ z, z = (C8_offer V5 0 ((nI 16) + (M 1 129))) := ⟨_, rfl⟩
            have cnV6 : vp_in (V6 1 10) 101 := by rw [hV6]; exact cn_offer cnV5
            refine j_callv cx (pc := 196) 2 (c_X8_offer l D Y mo V5 0 ((nI 16) + (M 1 129)) (by omega) (vp_mono cnV5 (by decide))) gX8_letGo_X8_offer rfl (by decide +kernel) rfl ⟨Nat.le_of_ble_eq_true rfl, Nat.le_of_ble_eq_true rfl⟩ [0] rfl (by decide) (Bs' := [moB Y mo V6]) (by rw [hV6]; exact P1_mo V5 (C8_offer V5 0 ((nI 16) + (M 1 129)))) A1_mo 0 0 rfl rfl rfl rfl (Nat.le_of_ble_eq_true rfl) dX8_letGo_196 ⟨Nat.zero_le _, Nat.zero_le _⟩ ?_
            subst hQ; exact j_vret cx hr (by subst hV6; subst hV5; subst hV4; subst hV3; subst hV2; subst hV1; simp only [C8_letGo, if_neg c23_1, if_neg c29_2, if_pos c34_3]) hA dX8_letGo_199
          | succ n ih =>
            intro i hi h0
            obtain ⟨V7, hV7⟩ : ∃ z, z = setC M 1 (shl (M 1) 129 i) := ⟨_, rfl⟩
            refine j_bs (Bs' := [moB Y mo V7]) (by rw [hV7]) ?_
            refine j_iload cx (pc := 105) dX8_letGo_105 0 rfl ?_
            refine j_bipush cx (pc := 107) (v := (nI 19)) dX8_letGo_107 (by decide) ?_
            refine j_icmpN_ge cx (pc := 109) (by omega) (by decide) (tgt := 140) dX8_letGo_109 (by decide) (fun c109_7 => by exfalso; omega) (fun c109_7 => ?_)
            refine j_aload_n cx (pc := 112) dX8_letGo_112 7 rfl ?_
            refine j_get cx (pc := 113) 0 0 rfl rfl (C := RX8) (T := TX8) (N := 12) rfl hinX8 0 (by decide) f7 rfl (v := .ref (mo 1)) rfl dX8_letGo_113 ?_
            refine j_iload cx (pc := 116) dX8_letGo_116 2 rfl ?_
            refine j_iload cx (pc := 118) dX8_letGo_118 0 rfl ?_
            refine j_iaddN cx (pc := 120) dX8_letGo_120 ?_
            refine j_aload_n cx (pc := 121) dX8_letGo_121 7 rfl ?_
            refine j_get cx (pc := 122) 0 0 rfl rfl (C := RX8) (T := TX8) (N := 12) rfl hinX8 0 (by decide) f7 rfl (v := .ref (mo 1)) rfl dX8_letGo_122 ?_
            refine j_iload cx (pc := 125) dX8_letGo_125 2 rfl ?_
            refine j_iload cx (pc := 127) dX8_letGo_127 0 rfl ?_
            refine j_iaddN cx (pc := 129) dX8_letGo_129 ?_
            refine j_iconst cx (pc := 130) (v := (nI 1)) dX8_letGo_130 (by decide) ?_
            refine j_iaddN cx (pc := 131) dX8_letGo_131 ?_
            refine j_iald cx (pc := 132) 0 1 0 rfl rfl rfl (by omega) (by decide) dX8_letGo_132 ?_
            obtain ⟨V8, hV8⟩ : ∃ z, z = up1 V7 1 (129 + i) (V7 1 ((129 + i) + 1)) := ⟨_, rfl⟩
            refine j_iast cx (pc := 133) 0 1 0 rfl rfl rfl (by omega) (by decide) (Bs' := [moB Y mo V8]) (by rw [hV8]; rfl) dX8_letGo_133 ?_
            refine j_iinc cx (pc := 134) (v := (nI (i + 1))) (lv' := [(7, .int (nI (i + 1))), (6, .int ((nI 16) + (M 1 129))), (5, .int (nI 129)), (4, .int (nI 1)), (3, .int (nI 1)), (2, .int (M 1 12)), (1, .int (M 1 11)), (0, .ref (mo 0))]) dX8_letGo_134 0 rfl (show nI i + nI 1 = nI (i + 1) from nI_add _ _) (by decide) rfl ?_
            refine j_goto cx (pc := 137) (tgt := 105) dX8_letGo_137 (by decide) ?_
            refine j_lvm (lv' := [(7, .int (nI (i + 1))), (6, .int ((nI 16) + (M 1 129))), (5, .int (nI 129)), (4, .int (nI 1)), (3, .int (nI 1)), (2, .int (M 1 12)), (1, .int (M 1 11)), (0, .ref (mo 0))]) (by intro z hz; simp only [List.mem_cons, List.not_mem_nil, or_false] at hz ⊢; rcases hz with rfl | rfl | rfl | rfl | rfl | rfl | rfl | rfl <;> simp) ?_
            refine j_bs (Bs' := [moB Y mo (setC M 1 (shl (M 1) 129 (i + 1)))]) (by subst hV8; subst hV7; rw [shl_s M 1 129 i]) ?_
            exact ih (i + 1) (by omega) (by omega)
        refine j_bs (Bs' := [moB Y mo (setC M 1 (shl (M 1) 129 0))]) (by rw [shl_0 M 1 129]) ?_
        refine j_lvm (lv' := [(7, .int (nI 0)), (6, .int ((nI 16) + (M 1 129))), (5, .int (nI 129)), (4, .int (nI 1)), (3, .int (nI 1)), (2, .int (M 1 12)), (1, .int (M 1 11)), (0, .ref (mo 0))]) (by intro z hz; simp only [List.mem_cons, List.not_mem_nil, or_false] at hz ⊢; rcases hz with rfl | rfl | rfl | rfl | rfl | rfl | rfl | rfl <;> simp) ?_
        exact lp5 (19 - 0) 0 (by omega) (Nat.le_refl _)
      · skip
        refine j_iload_n cx (pc := 37) dX8_letGo_37 0 rfl ?_
        refine j_if_le cx (pc := 38) (tgt := 64) dX8_letGo_38 (by decide) (fun c38_8 => ?_) (fun c38_8 => ?_)
        · skip
          refine j_iconst cx (pc := 64) (v := (nI 0)) dX8_letGo_64 (by decide) ?_
          refine j_istore_n cx (pc := 65) (lv' := [(3, .int (nI 0)), (2, .int (M 1 12)), (1, .int (M 1 11)), (0, .ref (mo 0))]) dX8_letGo_65 (by decide) rfl ?_
          refine j_iload_n cx (pc := 66) dX8_letGo_66 0 rfl ?_
          refine j_ifN_eq cx (pc := 67) (by decide) (tgt := 74) dX8_letGo_67 (by decide) (fun c67_9 => ?_) (fun c67_9 => by exfalso; revert c67_9; decide)
          refine j_iconst cx (pc := 74) (v := (nI 0)) dX8_letGo_74 (by decide) ?_
          refine j_istore cx (pc := 75) (lv' := [(4, .int (nI 0)), (3, .int (nI 0)), (2, .int (M 1 12)), (1, .int (M 1 11)), (0, .ref (mo 0))]) dX8_letGo_75 (by decide) rfl ?_
          refine j_bipush cx (pc := 77) (v := (nI 109)) dX8_letGo_77 (by decide) ?_
          refine j_bipush cx (pc := 79) (v := (nI 20)) dX8_letGo_79 (by decide) ?_
          refine j_iload cx (pc := 81) dX8_letGo_81 0 rfl ?_
          refine j_imulN cx (pc := 83) dX8_letGo_83 ?_
          refine j_top (show nI (20 * 0) = nI 0 from rfl) ?_
          refine j_iaddN cx (pc := 84) dX8_letGo_84 ?_
          refine j_top (show nI (109 + 0) = nI 109 from rfl) ?_
          refine j_istore cx (pc := 85) (lv' := [(5, .int (nI 109)), (4, .int (nI 0)), (3, .int (nI 0)), (2, .int (M 1 12)), (1, .int (M 1 11)), (0, .ref (mo 0))]) dX8_letGo_85 (by decide) rfl ?_
          refine j_bipush cx (pc := 87) (v := (nI 16)) dX8_letGo_87 (by decide) ?_
          refine j_iload cx (pc := 89) dX8_letGo_89 1 rfl ?_
          refine j_imulN cx (pc := 91) dX8_letGo_91 ?_
          refine j_top (show nI (16 * 0) = nI 0 from rfl) ?_
          refine j_aload_n cx (pc := 92) dX8_letGo_92 5 rfl ?_
          refine j_get cx (pc := 93) 0 0 rfl rfl (C := RX8) (T := TX8) (N := 12) rfl hinX8 0 (by decide) f7 rfl (v := .ref (mo 1)) rfl dX8_letGo_93 ?_
          refine j_iload cx (pc := 96) dX8_letGo_96 0 rfl ?_
          refine j_iald cx (pc := 98) 0 1 0 rfl rfl rfl (by decide) (by decide) dX8_letGo_98 ?_
          refine j_iadd cx (pc := 99) dX8_letGo_99 ?_
          refine j_istore cx (pc := 100) (lv' := [(6, .int ((nI 0) + (M 1 109))), (5, .int (nI 109)), (4, .int (nI 0)), (3, .int (nI 0)), (2, .int (M 1 12)), (1, .int (M 1 11)), (0, .ref (mo 0))]) dX8_letGo_100 (by decide) rfl ?_
          refine j_iconst cx (pc := 102) (v := (nI 0)) dX8_letGo_102 (by decide) ?_
          refine j_istore cx (pc := 103) (lv' := [(7, .int (nI 0)), (6, .int ((nI 0) + (M 1 109))), (5, .int (nI 109)), (4, .int (nI 0)), (3, .int (nI 0)), (2, .int (M 1 12)), (1, .int (M 1 11)), (0, .ref (mo 0))]) dX8_letGo_103 (by decide) rfl ?_
          have lp10 : ∀ (n i : Nat), i + n = 19 → 0 ≤ i → J p l e { frames := 2, cells := 0, slots := 0, locals := 47 } s m args below meth c 8 D A 0 0 Q ([moB Y mo (setC M 1 (shl (M 1) 109 i))]) 105 [(7, .int (nI i)), (6, .int ((nI 0) + (M 1 109))), (5, .int (nI 109)), (4, .int (nI 0)), (3, .int (nI 0)), (2, .int (M 1 12)), (1, .int (M 1 11)), (0, .ref (mo 0))] [] := by
            intro n
            induction n with
            | zero =>
              intro i hi h0
              have hi2 : i = 19 := by omega
              subst hi2
              obtain ⟨V9, hV9⟩ : ∃ z, z = setC M 1 (shl (M 1) 109 19) := ⟨_, rfl⟩
              have cnV9 : vp_in (V9 1 10) 99 := by rw [hV9]; exact e_setC (by show (if _ then _ else _) = _; exact if_neg (by omega)) hn
              refine j_bs (Bs' := [moB Y mo V9]) (by rw [hV9]) ?_
              refine j_iload cx (pc := 105) dX8_letGo_105 0 rfl ?_
              refine j_bipush cx (pc := 107) (v := (nI 19)) dX8_letGo_107 (by decide) ?_
              refine j_icmpN_ge cx (pc := 109) (by decide) (by decide) (tgt := 140) dX8_letGo_109 (by decide) (fun c109_11 => ?_) (fun c109_11 => by exfalso; revert c109_11; decide)
              refine j_aload_n cx (pc := 140) dX8_letGo_140 7 rfl ?_
              refine j_get cx (pc := 141) 0 0 rfl rfl (C := RX8) (T := TX8) (N := 12) rfl hinX8 0 (by decide) f7 rfl (v := .ref (mo 1)) rfl dX8_letGo_141 ?_
              refine j_bipush cx (pc := 144) (v := (nI 11)) dX8_letGo_144 (by decide) ?_
              refine j_iload cx (pc := 146) dX8_letGo_146 3 rfl ?_
              refine j_iaddN cx (pc := 148) dX8_letGo_148 ?_
              refine j_top (show nI (11 + 0) = nI 11 from rfl) ?_
              refine j_dup2 cx (pc := 149) dX8_letGo_149 rfl rfl ?_
              refine j_iald cx (pc := 150) 0 1 0 rfl rfl rfl (by decide) (by decide) dX8_letGo_150 ?_
              refine j_iconst cx (pc := 151) (v := (nI 1)) dX8_letGo_151 (by decide) ?_
              refine j_isub cx (pc := 152) dX8_letGo_152 ?_
              obtain ⟨V10, hV10⟩ : ∃ z, z = up1 V9 1 11 ((V9 1 11) - (nI 1)) := ⟨_, rfl⟩
              have cnV10 : vp_in (V10 1 10) 99 := by rw [hV10]; exact cn_up (by omega) cnV9
              refine j_iast cx (pc := 153) 0 1 0 rfl rfl rfl (by decide) (by decide) (Bs' := [moB Y mo V10]) (by rw [hV10]; rfl) dX8_letGo_153 ?_
              refine j_aload_n cx (pc := 154) dX8_letGo_154 7 rfl ?_
              refine j_get cx (pc := 155) 0 0 rfl rfl (C := RX8) (T := TX8) (N := 12) rfl hinX8 0 (by decide) f7 rfl (v := .ref (mo 1)) rfl dX8_letGo_155 ?_
              refine j_bipush cx (pc := 158) (v := (nI 8)) dX8_letGo_158 (by decide) ?_
              refine j_iload cx (pc := 160) dX8_letGo_160 3 rfl ?_
              obtain ⟨V11, hV11⟩ : ∃ z, z = up1 V10 1 8 (nI 0) := ⟨_, rfl⟩
              have cnV11 : vp_in (V11 1 10) 99 := by rw [hV11]; exact cn_up (by omega) cnV10
              refine j_iast cx (pc := 162) 0 1 0 rfl rfl rfl (by decide) (by decide) (Bs' := [moB Y mo V11]) (by rw [hV11]; rfl) dX8_letGo_162 ?_
              refine j_aload_n cx (pc := 163) dX8_letGo_163 7 rfl ?_
              refine j_get cx (pc := 164) 0 0 rfl rfl (C := RX8) (T := TX8) (N := 12) rfl hinX8 0 (by decide) f7 rfl (v := .ref (mo 1)) rfl dX8_letGo_164 ?_
              refine j_sipush cx (pc := 167) (v := (nI 149)) dX8_letGo_167 (by decide) ?_
              refine j_aload_n cx (pc := 170) dX8_letGo_170 7 rfl ?_
              refine j_get cx (pc := 171) 0 0 rfl rfl (C := RX8) (T := TX8) (N := 12) rfl hinX8 0 (by decide) f7 rfl (v := .ref (mo 1)) rfl dX8_letGo_171 ?_
              refine j_bipush cx (pc := 174) (v := (nI 9)) dX8_letGo_174 (by decide) ?_
              refine j_iald cx (pc := 176) 0 1 0 rfl rfl rfl (by decide) (by decide) dX8_letGo_176 ?_
              have e9 : V11 1 9 = nI (tN (M 1 9)) := by subst_vars; exact inN hpd
              refine j_top (show (V11 1 9) = (nI (tN (M 1 9))) from e9) ?_
              refine j_iaddN cx (pc := 177) dX8_letGo_177 ?_
              refine j_iload cx (pc := 178) dX8_letGo_178 1 rfl ?_
              obtain ⟨V12, hV12⟩ : ∃ z, z = up1 V11 1 (149 + (tN (M 1 9))) ((nI 0) + (M 1 109)) := ⟨_, rfl⟩
              have cnV12 : vp_in (V12 1 10) 99 := by rw [hV12]; exact cn_up (by omega) cnV11
              refine j_iast cx (pc := 180) 0 1 0 rfl rfl rfl (by omega) (by decide) (Bs' := [moB Y mo V12]) (by rw [hV12]; rfl) dX8_letGo_180 ?_
              refine j_aload_n cx (pc := 181) dX8_letGo_181 7 rfl ?_
              refine j_get cx (pc := 182) 0 0 rfl rfl (C := RX8) (T := TX8) (N := 12) rfl hinX8 0 (by decide) f7 rfl (v := .ref (mo 1)) rfl dX8_letGo_182 ?_
              refine j_bipush cx (pc := 185) (v := (nI 9)) dX8_letGo_185 (by decide) ?_
              refine j_dup2 cx (pc := 187) dX8_letGo_187 rfl rfl ?_
              refine j_iald cx (pc := 188) 0 1 0 rfl rfl rfl (by decide) (by decide) dX8_letGo_188 ?_
              refine j_iconst cx (pc := 189) (v := (nI 1)) dX8_letGo_189 (by decide) ?_
              refine j_iadd cx (pc := 190) dX8_letGo_190 ?_
              obtain ⟨V13, hV13⟩ : ∃ z, z = up1 V12 1 9 ((V12 1 9) + (nI 1)) := ⟨_, rfl⟩
              have cnV13 : vp_in (V13 1 10) 99 := by rw [hV13]; exact cn_up (by omega) cnV12
              refine j_iast cx (pc := 191) 0 1 0 rfl rfl rfl (by decide) (by decide) (Bs' := [moB Y mo V13]) (by rw [hV13]; rfl) dX8_letGo_191 ?_
              refine j_aload_n cx (pc := 192) dX8_letGo_192 7 rfl ?_
              refine j_iconst cx (pc := 193) (v := (nI 0)) dX8_letGo_193 (by decide) ?_
              refine j_iload cx (pc := 194) dX8_letGo_194 1 rfl ?_
              obtain ⟨V14, hV14⟩ : ∃ z, z = (C8_offer V13 0 ((nI 0) + (M 1 109))) := ⟨_, rfl⟩
              have cnV14 : vp_in (V14 1 10) 101 := by rw [hV14]; exact cn_offer cnV13
              refine j_callv cx (pc := 196) 2 (c_X8_offer l D Y mo V13 0 ((nI 0) + (M 1 109)) (by omega) (vp_mono cnV13 (by decide))) gX8_letGo_X8_offer rfl (by decide +kernel) rfl ⟨Nat.le_of_ble_eq_true rfl, Nat.le_of_ble_eq_true rfl⟩ [0] rfl (by decide) (Bs' := [moB Y mo V14]) (by rw [hV14]; exact P1_mo V13 (C8_offer V13 0 ((nI 0) + (M 1 109)))) A1_mo 0 0 rfl rfl rfl rfl (Nat.le_of_ble_eq_true rfl) dX8_letGo_196 ⟨Nat.zero_le _, Nat.zero_le _⟩ ?_
              subst hQ; exact j_vret cx hr (by subst hV14; subst hV13; subst hV12; subst hV11; subst hV10; subst hV9; simp only [C8_letGo, if_neg c23_1, if_neg c29_2, if_neg c34_3, if_pos c38_8]) hA dX8_letGo_199
            | succ n ih =>
              intro i hi h0
              obtain ⟨V15, hV15⟩ : ∃ z, z = setC M 1 (shl (M 1) 109 i) := ⟨_, rfl⟩
              refine j_bs (Bs' := [moB Y mo V15]) (by rw [hV15]) ?_
              refine j_iload cx (pc := 105) dX8_letGo_105 0 rfl ?_
              refine j_bipush cx (pc := 107) (v := (nI 19)) dX8_letGo_107 (by decide) ?_
              refine j_icmpN_ge cx (pc := 109) (by omega) (by decide) (tgt := 140) dX8_letGo_109 (by decide) (fun c109_12 => by exfalso; omega) (fun c109_12 => ?_)
              refine j_aload_n cx (pc := 112) dX8_letGo_112 7 rfl ?_
              refine j_get cx (pc := 113) 0 0 rfl rfl (C := RX8) (T := TX8) (N := 12) rfl hinX8 0 (by decide) f7 rfl (v := .ref (mo 1)) rfl dX8_letGo_113 ?_
              refine j_iload cx (pc := 116) dX8_letGo_116 2 rfl ?_
              refine j_iload cx (pc := 118) dX8_letGo_118 0 rfl ?_
              refine j_iaddN cx (pc := 120) dX8_letGo_120 ?_
              refine j_aload_n cx (pc := 121) dX8_letGo_121 7 rfl ?_
              refine j_get cx (pc := 122) 0 0 rfl rfl (C := RX8) (T := TX8) (N := 12) rfl hinX8 0 (by decide) f7 rfl (v := .ref (mo 1)) rfl dX8_letGo_122 ?_
              refine j_iload cx (pc := 125) dX8_letGo_125 2 rfl ?_
              refine j_iload cx (pc := 127) dX8_letGo_127 0 rfl ?_
              refine j_iaddN cx (pc := 129) dX8_letGo_129 ?_
              refine j_iconst cx (pc := 130) (v := (nI 1)) dX8_letGo_130 (by decide) ?_
              refine j_iaddN cx (pc := 131) dX8_letGo_131 ?_
              refine j_iald cx (pc := 132) 0 1 0 rfl rfl rfl (by omega) (by decide) dX8_letGo_132 ?_
              obtain ⟨V16, hV16⟩ : ∃ z, z = up1 V15 1 (109 + i) (V15 1 ((109 + i) + 1)) := ⟨_, rfl⟩
              refine j_iast cx (pc := 133) 0 1 0 rfl rfl rfl (by omega) (by decide) (Bs' := [moB Y mo V16]) (by rw [hV16]; rfl) dX8_letGo_133 ?_
              refine j_iinc cx (pc := 134) (v := (nI (i + 1))) (lv' := [(7, .int (nI (i + 1))), (6, .int ((nI 0) + (M 1 109))), (5, .int (nI 109)), (4, .int (nI 0)), (3, .int (nI 0)), (2, .int (M 1 12)), (1, .int (M 1 11)), (0, .ref (mo 0))]) dX8_letGo_134 0 rfl (show nI i + nI 1 = nI (i + 1) from nI_add _ _) (by decide) rfl ?_
              refine j_goto cx (pc := 137) (tgt := 105) dX8_letGo_137 (by decide) ?_
              refine j_lvm (lv' := [(7, .int (nI (i + 1))), (6, .int ((nI 0) + (M 1 109))), (5, .int (nI 109)), (4, .int (nI 0)), (3, .int (nI 0)), (2, .int (M 1 12)), (1, .int (M 1 11)), (0, .ref (mo 0))]) (by intro z hz; simp only [List.mem_cons, List.not_mem_nil, or_false] at hz ⊢; rcases hz with rfl | rfl | rfl | rfl | rfl | rfl | rfl | rfl <;> simp) ?_
              refine j_bs (Bs' := [moB Y mo (setC M 1 (shl (M 1) 109 (i + 1)))]) (by subst hV16; subst hV15; rw [shl_s M 1 109 i]) ?_
              exact ih (i + 1) (by omega) (by omega)
          refine j_bs (Bs' := [moB Y mo (setC M 1 (shl (M 1) 109 0))]) (by rw [shl_0 M 1 109]) ?_
          refine j_lvm (lv' := [(7, .int (nI 0)), (6, .int ((nI 0) + (M 1 109))), (5, .int (nI 109)), (4, .int (nI 0)), (3, .int (nI 0)), (2, .int (M 1 12)), (1, .int (M 1 11)), (0, .ref (mo 0))]) (by intro z hz; simp only [List.mem_cons, List.not_mem_nil, or_false] at hz ⊢; rcases hz with rfl | rfl | rfl | rfl | rfl | rfl | rfl | rfl <;> simp) ?_
          exact lp10 (19 - 0) 0 (by omega) (Nat.le_refl _)
        · skip
          refine j_aload_n cx (pc := 41) dX8_letGo_41 2 rfl ?_
          refine j_get cx (pc := 42) 0 0 rfl rfl (C := RX8) (T := TX8) (N := 12) rfl hinX8 0 (by decide) f7 rfl (v := .ref (mo 1)) rfl dX8_letGo_42 ?_
          refine j_iconst cx (pc := 45) (v := (nI 2)) dX8_letGo_45 (by decide) ?_
          refine j_iald cx (pc := 46) 0 1 0 rfl rfl rfl (by decide) (by decide) dX8_letGo_46 ?_
          refine j_if_ne cx (pc := 47) (tgt := 64) dX8_letGo_47 (by decide) (fun c47_13 => ?_) (fun c47_13 => ?_)
          · skip
            refine j_iconst cx (pc := 64) (v := (nI 0)) dX8_letGo_64 (by decide) ?_
            refine j_istore_n cx (pc := 65) (lv' := [(3, .int (nI 0)), (2, .int (M 1 12)), (1, .int (M 1 11)), (0, .ref (mo 0))]) dX8_letGo_65 (by decide) rfl ?_
            refine j_iload_n cx (pc := 66) dX8_letGo_66 0 rfl ?_
            refine j_ifN_eq cx (pc := 67) (by decide) (tgt := 74) dX8_letGo_67 (by decide) (fun c67_14 => ?_) (fun c67_14 => by exfalso; revert c67_14; decide)
            refine j_iconst cx (pc := 74) (v := (nI 0)) dX8_letGo_74 (by decide) ?_
            refine j_istore cx (pc := 75) (lv' := [(4, .int (nI 0)), (3, .int (nI 0)), (2, .int (M 1 12)), (1, .int (M 1 11)), (0, .ref (mo 0))]) dX8_letGo_75 (by decide) rfl ?_
            refine j_bipush cx (pc := 77) (v := (nI 109)) dX8_letGo_77 (by decide) ?_
            refine j_bipush cx (pc := 79) (v := (nI 20)) dX8_letGo_79 (by decide) ?_
            refine j_iload cx (pc := 81) dX8_letGo_81 0 rfl ?_
            refine j_imulN cx (pc := 83) dX8_letGo_83 ?_
            refine j_top (show nI (20 * 0) = nI 0 from rfl) ?_
            refine j_iaddN cx (pc := 84) dX8_letGo_84 ?_
            refine j_top (show nI (109 + 0) = nI 109 from rfl) ?_
            refine j_istore cx (pc := 85) (lv' := [(5, .int (nI 109)), (4, .int (nI 0)), (3, .int (nI 0)), (2, .int (M 1 12)), (1, .int (M 1 11)), (0, .ref (mo 0))]) dX8_letGo_85 (by decide) rfl ?_
            refine j_bipush cx (pc := 87) (v := (nI 16)) dX8_letGo_87 (by decide) ?_
            refine j_iload cx (pc := 89) dX8_letGo_89 1 rfl ?_
            refine j_imulN cx (pc := 91) dX8_letGo_91 ?_
            refine j_top (show nI (16 * 0) = nI 0 from rfl) ?_
            refine j_aload_n cx (pc := 92) dX8_letGo_92 5 rfl ?_
            refine j_get cx (pc := 93) 0 0 rfl rfl (C := RX8) (T := TX8) (N := 12) rfl hinX8 0 (by decide) f7 rfl (v := .ref (mo 1)) rfl dX8_letGo_93 ?_
            refine j_iload cx (pc := 96) dX8_letGo_96 0 rfl ?_
            refine j_iald cx (pc := 98) 0 1 0 rfl rfl rfl (by decide) (by decide) dX8_letGo_98 ?_
            refine j_iadd cx (pc := 99) dX8_letGo_99 ?_
            refine j_istore cx (pc := 100) (lv' := [(6, .int ((nI 0) + (M 1 109))), (5, .int (nI 109)), (4, .int (nI 0)), (3, .int (nI 0)), (2, .int (M 1 12)), (1, .int (M 1 11)), (0, .ref (mo 0))]) dX8_letGo_100 (by decide) rfl ?_
            refine j_iconst cx (pc := 102) (v := (nI 0)) dX8_letGo_102 (by decide) ?_
            refine j_istore cx (pc := 103) (lv' := [(7, .int (nI 0)), (6, .int ((nI 0) + (M 1 109))), (5, .int (nI 109)), (4, .int (nI 0)), (3, .int (nI 0)), (2, .int (M 1 12)), (1, .int (M 1 11)), (0, .ref (mo 0))]) dX8_letGo_103 (by decide) rfl ?_
            have lp15 : ∀ (n i : Nat), i + n = 19 → 0 ≤ i → J p l e { frames := 2, cells := 0, slots := 0, locals := 47 } s m args below meth c 8 D A 0 0 Q ([moB Y mo (setC M 1 (shl (M 1) 109 i))]) 105 [(7, .int (nI i)), (6, .int ((nI 0) + (M 1 109))), (5, .int (nI 109)), (4, .int (nI 0)), (3, .int (nI 0)), (2, .int (M 1 12)), (1, .int (M 1 11)), (0, .ref (mo 0))] [] := by
              intro n
              induction n with
              | zero =>
                intro i hi h0
                have hi2 : i = 19 := by omega
                subst hi2
                obtain ⟨V17, hV17⟩ : ∃ z, z = setC M 1 (shl (M 1) 109 19) := ⟨_, rfl⟩
                have cnV17 : vp_in (V17 1 10) 99 := by rw [hV17]; exact e_setC (by show (if _ then _ else _) = _; exact if_neg (by omega)) hn
                refine j_bs (Bs' := [moB Y mo V17]) (by rw [hV17]) ?_
                refine j_iload cx (pc := 105) dX8_letGo_105 0 rfl ?_
                refine j_bipush cx (pc := 107) (v := (nI 19)) dX8_letGo_107 (by decide) ?_
                refine j_icmpN_ge cx (pc := 109) (by decide) (by decide) (tgt := 140) dX8_letGo_109 (by decide) (fun c109_16 => ?_) (fun c109_16 => by exfalso; revert c109_16; decide)
                refine j_aload_n cx (pc := 140) dX8_letGo_140 7 rfl ?_
                refine j_get cx (pc := 141) 0 0 rfl rfl (C := RX8) (T := TX8) (N := 12) rfl hinX8 0 (by decide) f7 rfl (v := .ref (mo 1)) rfl dX8_letGo_141 ?_
                refine j_bipush cx (pc := 144) (v := (nI 11)) dX8_letGo_144 (by decide) ?_
                refine j_iload cx (pc := 146) dX8_letGo_146 3 rfl ?_
                refine j_iaddN cx (pc := 148) dX8_letGo_148 ?_
                refine j_top (show nI (11 + 0) = nI 11 from rfl) ?_
                refine j_dup2 cx (pc := 149) dX8_letGo_149 rfl rfl ?_
                refine j_iald cx (pc := 150) 0 1 0 rfl rfl rfl (by decide) (by decide) dX8_letGo_150 ?_
                refine j_iconst cx (pc := 151) (v := (nI 1)) dX8_letGo_151 (by decide) ?_
                refine j_isub cx (pc := 152) dX8_letGo_152 ?_
                obtain ⟨V18, hV18⟩ : ∃ z, z = up1 V17 1 11 ((V17 1 11) - (nI 1)) := ⟨_, rfl⟩
                have cnV18 : vp_in (V18 1 10) 99 := by rw [hV18]; exact cn_up (by omega) cnV17
                refine j_iast cx (pc := 153) 0 1 0 rfl rfl rfl (by decide) (by decide) (Bs' := [moB Y mo V18]) (by rw [hV18]; rfl) dX8_letGo_153 ?_
                refine j_aload_n cx (pc := 154) dX8_letGo_154 7 rfl ?_
                refine j_get cx (pc := 155) 0 0 rfl rfl (C := RX8) (T := TX8) (N := 12) rfl hinX8 0 (by decide) f7 rfl (v := .ref (mo 1)) rfl dX8_letGo_155 ?_
                refine j_bipush cx (pc := 158) (v := (nI 8)) dX8_letGo_158 (by decide) ?_
                refine j_iload cx (pc := 160) dX8_letGo_160 3 rfl ?_
                obtain ⟨V19, hV19⟩ : ∃ z, z = up1 V18 1 8 (nI 0) := ⟨_, rfl⟩
                have cnV19 : vp_in (V19 1 10) 99 := by rw [hV19]; exact cn_up (by omega) cnV18
                refine j_iast cx (pc := 162) 0 1 0 rfl rfl rfl (by decide) (by decide) (Bs' := [moB Y mo V19]) (by rw [hV19]; rfl) dX8_letGo_162 ?_
                refine j_aload_n cx (pc := 163) dX8_letGo_163 7 rfl ?_
                refine j_get cx (pc := 164) 0 0 rfl rfl (C := RX8) (T := TX8) (N := 12) rfl hinX8 0 (by decide) f7 rfl (v := .ref (mo 1)) rfl dX8_letGo_164 ?_
                refine j_sipush cx (pc := 167) (v := (nI 149)) dX8_letGo_167 (by decide) ?_
                refine j_aload_n cx (pc := 170) dX8_letGo_170 7 rfl ?_
                refine j_get cx (pc := 171) 0 0 rfl rfl (C := RX8) (T := TX8) (N := 12) rfl hinX8 0 (by decide) f7 rfl (v := .ref (mo 1)) rfl dX8_letGo_171 ?_
                refine j_bipush cx (pc := 174) (v := (nI 9)) dX8_letGo_174 (by decide) ?_
                refine j_iald cx (pc := 176) 0 1 0 rfl rfl rfl (by decide) (by decide) dX8_letGo_176 ?_
                have e9 : V19 1 9 = nI (tN (M 1 9)) := by subst_vars; exact inN hpd
                refine j_top (show (V19 1 9) = (nI (tN (M 1 9))) from e9) ?_
                refine j_iaddN cx (pc := 177) dX8_letGo_177 ?_
                refine j_iload cx (pc := 178) dX8_letGo_178 1 rfl ?_
                obtain ⟨V20, hV20⟩ : ∃ z, z = up1 V19 1 (149 + (tN (M 1 9))) ((nI 0) + (M 1 109)) := ⟨_, rfl⟩
                have cnV20 : vp_in (V20 1 10) 99 := by rw [hV20]; exact cn_up (by omega) cnV19
                refine j_iast cx (pc := 180) 0 1 0 rfl rfl rfl (by omega) (by decide) (Bs' := [moB Y mo V20]) (by rw [hV20]; rfl) dX8_letGo_180 ?_
                refine j_aload_n cx (pc := 181) dX8_letGo_181 7 rfl ?_
                refine j_get cx (pc := 182) 0 0 rfl rfl (C := RX8) (T := TX8) (N := 12) rfl hinX8 0 (by decide) f7 rfl (v := .ref (mo 1)) rfl dX8_letGo_182 ?_
                refine j_bipush cx (pc := 185) (v := (nI 9)) dX8_letGo_185 (by decide) ?_
                refine j_dup2 cx (pc := 187) dX8_letGo_187 rfl rfl ?_
                refine j_iald cx (pc := 188) 0 1 0 rfl rfl rfl (by decide) (by decide) dX8_letGo_188 ?_
                refine j_iconst cx (pc := 189) (v := (nI 1)) dX8_letGo_189 (by decide) ?_
                refine j_iadd cx (pc := 190) dX8_letGo_190 ?_
                obtain ⟨V21, hV21⟩ : ∃ z, z = up1 V20 1 9 ((V20 1 9) + (nI 1)) := ⟨_, rfl⟩
                have cnV21 : vp_in (V21 1 10) 99 := by rw [hV21]; exact cn_up (by omega) cnV20
                refine j_iast cx (pc := 191) 0 1 0 rfl rfl rfl (by decide) (by decide) (Bs' := [moB Y mo V21]) (by rw [hV21]; rfl) dX8_letGo_191 ?_
                refine j_aload_n cx (pc := 192) dX8_letGo_192 7 rfl ?_
                refine j_iconst cx (pc := 193) (v := (nI 0)) dX8_letGo_193 (by decide) ?_
                refine j_iload cx (pc := 194) dX8_letGo_194 1 rfl ?_
                obtain ⟨V22, hV22⟩ : ∃ z, z = (C8_offer V21 0 ((nI 0) + (M 1 109))) := ⟨_, rfl⟩
                have cnV22 : vp_in (V22 1 10) 101 := by rw [hV22]; exact cn_offer cnV21
                refine j_callv cx (pc := 196) 2 (c_X8_offer l D Y mo V21 0 ((nI 0) + (M 1 109)) (by omega) (vp_mono cnV21 (by decide))) gX8_letGo_X8_offer rfl (by decide +kernel) rfl ⟨Nat.le_of_ble_eq_true rfl, Nat.le_of_ble_eq_true rfl⟩ [0] rfl (by decide) (Bs' := [moB Y mo V22]) (by rw [hV22]; exact P1_mo V21 (C8_offer V21 0 ((nI 0) + (M 1 109)))) A1_mo 0 0 rfl rfl rfl rfl (Nat.le_of_ble_eq_true rfl) dX8_letGo_196 ⟨Nat.zero_le _, Nat.zero_le _⟩ ?_
                subst hQ; exact j_vret cx hr (by subst hV22; subst hV21; subst hV20; subst hV19; subst hV18; subst hV17; simp only [C8_letGo, if_neg c23_1, if_neg c29_2, if_neg c34_3, if_neg c38_8, if_neg c47_13]) hA dX8_letGo_199
              | succ n ih =>
                intro i hi h0
                obtain ⟨V23, hV23⟩ : ∃ z, z = setC M 1 (shl (M 1) 109 i) := ⟨_, rfl⟩
                refine j_bs (Bs' := [moB Y mo V23]) (by rw [hV23]) ?_
                refine j_iload cx (pc := 105) dX8_letGo_105 0 rfl ?_
                refine j_bipush cx (pc := 107) (v := (nI 19)) dX8_letGo_107 (by decide) ?_
                refine j_icmpN_ge cx (pc := 109) (by omega) (by decide) (tgt := 140) dX8_letGo_109 (by decide) (fun c109_17 => by exfalso; omega) (fun c109_17 => ?_)
                refine j_aload_n cx (pc := 112) dX8_letGo_112 7 rfl ?_
                refine j_get cx (pc := 113) 0 0 rfl rfl (C := RX8) (T := TX8) (N := 12) rfl hinX8 0 (by decide) f7 rfl (v := .ref (mo 1)) rfl dX8_letGo_113 ?_
                refine j_iload cx (pc := 116) dX8_letGo_116 2 rfl ?_
                refine j_iload cx (pc := 118) dX8_letGo_118 0 rfl ?_
                refine j_iaddN cx (pc := 120) dX8_letGo_120 ?_
                refine j_aload_n cx (pc := 121) dX8_letGo_121 7 rfl ?_
                refine j_get cx (pc := 122) 0 0 rfl rfl (C := RX8) (T := TX8) (N := 12) rfl hinX8 0 (by decide) f7 rfl (v := .ref (mo 1)) rfl dX8_letGo_122 ?_
                refine j_iload cx (pc := 125) dX8_letGo_125 2 rfl ?_
                refine j_iload cx (pc := 127) dX8_letGo_127 0 rfl ?_
                refine j_iaddN cx (pc := 129) dX8_letGo_129 ?_
                refine j_iconst cx (pc := 130) (v := (nI 1)) dX8_letGo_130 (by decide) ?_
                refine j_iaddN cx (pc := 131) dX8_letGo_131 ?_
                refine j_iald cx (pc := 132) 0 1 0 rfl rfl rfl (by omega) (by decide) dX8_letGo_132 ?_
                obtain ⟨V24, hV24⟩ : ∃ z, z = up1 V23 1 (109 + i) (V23 1 ((109 + i) + 1)) := ⟨_, rfl⟩
                refine j_iast cx (pc := 133) 0 1 0 rfl rfl rfl (by omega) (by decide) (Bs' := [moB Y mo V24]) (by rw [hV24]; rfl) dX8_letGo_133 ?_
                refine j_iinc cx (pc := 134) (v := (nI (i + 1))) (lv' := [(7, .int (nI (i + 1))), (6, .int ((nI 0) + (M 1 109))), (5, .int (nI 109)), (4, .int (nI 0)), (3, .int (nI 0)), (2, .int (M 1 12)), (1, .int (M 1 11)), (0, .ref (mo 0))]) dX8_letGo_134 0 rfl (show nI i + nI 1 = nI (i + 1) from nI_add _ _) (by decide) rfl ?_
                refine j_goto cx (pc := 137) (tgt := 105) dX8_letGo_137 (by decide) ?_
                refine j_lvm (lv' := [(7, .int (nI (i + 1))), (6, .int ((nI 0) + (M 1 109))), (5, .int (nI 109)), (4, .int (nI 0)), (3, .int (nI 0)), (2, .int (M 1 12)), (1, .int (M 1 11)), (0, .ref (mo 0))]) (by intro z hz; simp only [List.mem_cons, List.not_mem_nil, or_false] at hz ⊢; rcases hz with rfl | rfl | rfl | rfl | rfl | rfl | rfl | rfl <;> simp) ?_
                refine j_bs (Bs' := [moB Y mo (setC M 1 (shl (M 1) 109 (i + 1)))]) (by subst hV24; subst hV23; rw [shl_s M 1 109 i]) ?_
                exact ih (i + 1) (by omega) (by omega)
            refine j_bs (Bs' := [moB Y mo (setC M 1 (shl (M 1) 109 0))]) (by rw [shl_0 M 1 109]) ?_
            refine j_lvm (lv' := [(7, .int (nI 0)), (6, .int ((nI 0) + (M 1 109))), (5, .int (nI 109)), (4, .int (nI 0)), (3, .int (nI 0)), (2, .int (M 1 12)), (1, .int (M 1 11)), (0, .ref (mo 0))]) (by intro z hz; simp only [List.mem_cons, List.not_mem_nil, or_false] at hz ⊢; rcases hz with rfl | rfl | rfl | rfl | rfl | rfl | rfl | rfl <;> simp) ?_
            exact lp15 (19 - 0) 0 (by omega) (Nat.le_refl _)
          · skip
            refine j_aload_n cx (pc := 50) dX8_letGo_50 2 rfl ?_
            refine j_get cx (pc := 51) 0 0 rfl rfl (C := RX8) (T := TX8) (N := 12) rfl hinX8 0 (by decide) f7 rfl (v := .ref (mo 1)) rfl dX8_letGo_51 ?_
            refine j_bipush cx (pc := 54) (v := (nI 8)) dX8_letGo_54 (by decide) ?_
            refine j_iald cx (pc := 56) 0 1 0 rfl rfl rfl (by decide) (by decide) dX8_letGo_56 ?_
            refine j_if_ne cx (pc := 57) (tgt := 64) dX8_letGo_57 (by decide) (fun c57_18 => ?_) (fun c57_18 => ?_)
            · skip
              refine j_iconst cx (pc := 64) (v := (nI 0)) dX8_letGo_64 (by decide) ?_
              refine j_istore_n cx (pc := 65) (lv' := [(3, .int (nI 0)), (2, .int (M 1 12)), (1, .int (M 1 11)), (0, .ref (mo 0))]) dX8_letGo_65 (by decide) rfl ?_
              refine j_iload_n cx (pc := 66) dX8_letGo_66 0 rfl ?_
              refine j_ifN_eq cx (pc := 67) (by decide) (tgt := 74) dX8_letGo_67 (by decide) (fun c67_19 => ?_) (fun c67_19 => by exfalso; revert c67_19; decide)
              refine j_iconst cx (pc := 74) (v := (nI 0)) dX8_letGo_74 (by decide) ?_
              refine j_istore cx (pc := 75) (lv' := [(4, .int (nI 0)), (3, .int (nI 0)), (2, .int (M 1 12)), (1, .int (M 1 11)), (0, .ref (mo 0))]) dX8_letGo_75 (by decide) rfl ?_
              refine j_bipush cx (pc := 77) (v := (nI 109)) dX8_letGo_77 (by decide) ?_
              refine j_bipush cx (pc := 79) (v := (nI 20)) dX8_letGo_79 (by decide) ?_
              refine j_iload cx (pc := 81) dX8_letGo_81 0 rfl ?_
              refine j_imulN cx (pc := 83) dX8_letGo_83 ?_
              refine j_top (show nI (20 * 0) = nI 0 from rfl) ?_
              refine j_iaddN cx (pc := 84) dX8_letGo_84 ?_
              refine j_top (show nI (109 + 0) = nI 109 from rfl) ?_
              refine j_istore cx (pc := 85) (lv' := [(5, .int (nI 109)), (4, .int (nI 0)), (3, .int (nI 0)), (2, .int (M 1 12)), (1, .int (M 1 11)), (0, .ref (mo 0))]) dX8_letGo_85 (by decide) rfl ?_
              refine j_bipush cx (pc := 87) (v := (nI 16)) dX8_letGo_87 (by decide) ?_
              refine j_iload cx (pc := 89) dX8_letGo_89 1 rfl ?_
              refine j_imulN cx (pc := 91) dX8_letGo_91 ?_
              refine j_top (show nI (16 * 0) = nI 0 from rfl) ?_
              refine j_aload_n cx (pc := 92) dX8_letGo_92 5 rfl ?_
              refine j_get cx (pc := 93) 0 0 rfl rfl (C := RX8) (T := TX8) (N := 12) rfl hinX8 0 (by decide) f7 rfl (v := .ref (mo 1)) rfl dX8_letGo_93 ?_
              refine j_iload cx (pc := 96) dX8_letGo_96 0 rfl ?_
              refine j_iald cx (pc := 98) 0 1 0 rfl rfl rfl (by decide) (by decide) dX8_letGo_98 ?_
              refine j_iadd cx (pc := 99) dX8_letGo_99 ?_
              refine j_istore cx (pc := 100) (lv' := [(6, .int ((nI 0) + (M 1 109))), (5, .int (nI 109)), (4, .int (nI 0)), (3, .int (nI 0)), (2, .int (M 1 12)), (1, .int (M 1 11)), (0, .ref (mo 0))]) dX8_letGo_100 (by decide) rfl ?_
              refine j_iconst cx (pc := 102) (v := (nI 0)) dX8_letGo_102 (by decide) ?_
              refine j_istore cx (pc := 103) (lv' := [(7, .int (nI 0)), (6, .int ((nI 0) + (M 1 109))), (5, .int (nI 109)), (4, .int (nI 0)), (3, .int (nI 0)), (2, .int (M 1 12)), (1, .int (M 1 11)), (0, .ref (mo 0))]) dX8_letGo_103 (by decide) rfl ?_
              have lp20 : ∀ (n i : Nat), i + n = 19 → 0 ≤ i → J p l e { frames := 2, cells := 0, slots := 0, locals := 47 } s m args below meth c 8 D A 0 0 Q ([moB Y mo (setC M 1 (shl (M 1) 109 i))]) 105 [(7, .int (nI i)), (6, .int ((nI 0) + (M 1 109))), (5, .int (nI 109)), (4, .int (nI 0)), (3, .int (nI 0)), (2, .int (M 1 12)), (1, .int (M 1 11)), (0, .ref (mo 0))] [] := by
                intro n
                induction n with
                | zero =>
                  intro i hi h0
                  have hi2 : i = 19 := by omega
                  subst hi2
                  obtain ⟨V25, hV25⟩ : ∃ z, z = setC M 1 (shl (M 1) 109 19) := ⟨_, rfl⟩
                  have cnV25 : vp_in (V25 1 10) 99 := by rw [hV25]; exact e_setC (by show (if _ then _ else _) = _; exact if_neg (by omega)) hn
                  refine j_bs (Bs' := [moB Y mo V25]) (by rw [hV25]) ?_
                  refine j_iload cx (pc := 105) dX8_letGo_105 0 rfl ?_
                  refine j_bipush cx (pc := 107) (v := (nI 19)) dX8_letGo_107 (by decide) ?_
                  refine j_icmpN_ge cx (pc := 109) (by decide) (by decide) (tgt := 140) dX8_letGo_109 (by decide) (fun c109_21 => ?_) (fun c109_21 => by exfalso; revert c109_21; decide)
                  refine j_aload_n cx (pc := 140) dX8_letGo_140 7 rfl ?_
                  refine j_get cx (pc := 141) 0 0 rfl rfl (C := RX8) (T := TX8) (N := 12) rfl hinX8 0 (by decide) f7 rfl (v := .ref (mo 1)) rfl dX8_letGo_141 ?_
                  refine j_bipush cx (pc := 144) (v := (nI 11)) dX8_letGo_144 (by decide) ?_
                  refine j_iload cx (pc := 146) dX8_letGo_146 3 rfl ?_
                  refine j_iaddN cx (pc := 148) dX8_letGo_148 ?_
                  refine j_top (show nI (11 + 0) = nI 11 from rfl) ?_
                  refine j_dup2 cx (pc := 149) dX8_letGo_149 rfl rfl ?_
                  refine j_iald cx (pc := 150) 0 1 0 rfl rfl rfl (by decide) (by decide) dX8_letGo_150 ?_
                  refine j_iconst cx (pc := 151) (v := (nI 1)) dX8_letGo_151 (by decide) ?_
                  refine j_isub cx (pc := 152) dX8_letGo_152 ?_
                  obtain ⟨V26, hV26⟩ : ∃ z, z = up1 V25 1 11 ((V25 1 11) - (nI 1)) := ⟨_, rfl⟩
                  have cnV26 : vp_in (V26 1 10) 99 := by rw [hV26]; exact cn_up (by omega) cnV25
                  refine j_iast cx (pc := 153) 0 1 0 rfl rfl rfl (by decide) (by decide) (Bs' := [moB Y mo V26]) (by rw [hV26]; rfl) dX8_letGo_153 ?_
                  refine j_aload_n cx (pc := 154) dX8_letGo_154 7 rfl ?_
                  refine j_get cx (pc := 155) 0 0 rfl rfl (C := RX8) (T := TX8) (N := 12) rfl hinX8 0 (by decide) f7 rfl (v := .ref (mo 1)) rfl dX8_letGo_155 ?_
                  refine j_bipush cx (pc := 158) (v := (nI 8)) dX8_letGo_158 (by decide) ?_
                  refine j_iload cx (pc := 160) dX8_letGo_160 3 rfl ?_
                  obtain ⟨V27, hV27⟩ : ∃ z, z = up1 V26 1 8 (nI 0) := ⟨_, rfl⟩
                  have cnV27 : vp_in (V27 1 10) 99 := by rw [hV27]; exact cn_up (by omega) cnV26
                  refine j_iast cx (pc := 162) 0 1 0 rfl rfl rfl (by decide) (by decide) (Bs' := [moB Y mo V27]) (by rw [hV27]; rfl) dX8_letGo_162 ?_
                  refine j_aload_n cx (pc := 163) dX8_letGo_163 7 rfl ?_
                  refine j_get cx (pc := 164) 0 0 rfl rfl (C := RX8) (T := TX8) (N := 12) rfl hinX8 0 (by decide) f7 rfl (v := .ref (mo 1)) rfl dX8_letGo_164 ?_
                  refine j_sipush cx (pc := 167) (v := (nI 149)) dX8_letGo_167 (by decide) ?_
                  refine j_aload_n cx (pc := 170) dX8_letGo_170 7 rfl ?_
                  refine j_get cx (pc := 171) 0 0 rfl rfl (C := RX8) (T := TX8) (N := 12) rfl hinX8 0 (by decide) f7 rfl (v := .ref (mo 1)) rfl dX8_letGo_171 ?_
                  refine j_bipush cx (pc := 174) (v := (nI 9)) dX8_letGo_174 (by decide) ?_
                  refine j_iald cx (pc := 176) 0 1 0 rfl rfl rfl (by decide) (by decide) dX8_letGo_176 ?_
                  have e9 : V27 1 9 = nI (tN (M 1 9)) := by subst_vars; exact inN hpd
                  refine j_top (show (V27 1 9) = (nI (tN (M 1 9))) from e9) ?_
                  refine j_iaddN cx (pc := 177) dX8_letGo_177 ?_
                  refine j_iload cx (pc := 178) dX8_letGo_178 1 rfl ?_
                  obtain ⟨V28, hV28⟩ : ∃ z, z = up1 V27 1 (149 + (tN (M 1 9))) ((nI 0) + (M 1 109)) := ⟨_, rfl⟩
                  have cnV28 : vp_in (V28 1 10) 99 := by rw [hV28]; exact cn_up (by omega) cnV27
                  refine j_iast cx (pc := 180) 0 1 0 rfl rfl rfl (by omega) (by decide) (Bs' := [moB Y mo V28]) (by rw [hV28]; rfl) dX8_letGo_180 ?_
                  refine j_aload_n cx (pc := 181) dX8_letGo_181 7 rfl ?_
                  refine j_get cx (pc := 182) 0 0 rfl rfl (C := RX8) (T := TX8) (N := 12) rfl hinX8 0 (by decide) f7 rfl (v := .ref (mo 1)) rfl dX8_letGo_182 ?_
                  refine j_bipush cx (pc := 185) (v := (nI 9)) dX8_letGo_185 (by decide) ?_
                  refine j_dup2 cx (pc := 187) dX8_letGo_187 rfl rfl ?_
                  refine j_iald cx (pc := 188) 0 1 0 rfl rfl rfl (by decide) (by decide) dX8_letGo_188 ?_
                  refine j_iconst cx (pc := 189) (v := (nI 1)) dX8_letGo_189 (by decide) ?_
                  refine j_iadd cx (pc := 190) dX8_letGo_190 ?_
                  obtain ⟨V29, hV29⟩ : ∃ z, z = up1 V28 1 9 ((V28 1 9) + (nI 1)) := ⟨_, rfl⟩
                  have cnV29 : vp_in (V29 1 10) 99 := by rw [hV29]; exact cn_up (by omega) cnV28
                  refine j_iast cx (pc := 191) 0 1 0 rfl rfl rfl (by decide) (by decide) (Bs' := [moB Y mo V29]) (by rw [hV29]; rfl) dX8_letGo_191 ?_
                  refine j_aload_n cx (pc := 192) dX8_letGo_192 7 rfl ?_
                  refine j_iconst cx (pc := 193) (v := (nI 0)) dX8_letGo_193 (by decide) ?_
                  refine j_iload cx (pc := 194) dX8_letGo_194 1 rfl ?_
                  obtain ⟨V30, hV30⟩ : ∃ z, z = (C8_offer V29 0 ((nI 0) + (M 1 109))) := ⟨_, rfl⟩
                  have cnV30 : vp_in (V30 1 10) 101 := by rw [hV30]; exact cn_offer cnV29
                  refine j_callv cx (pc := 196) 2 (c_X8_offer l D Y mo V29 0 ((nI 0) + (M 1 109)) (by omega) (vp_mono cnV29 (by decide))) gX8_letGo_X8_offer rfl (by decide +kernel) rfl ⟨Nat.le_of_ble_eq_true rfl, Nat.le_of_ble_eq_true rfl⟩ [0] rfl (by decide) (Bs' := [moB Y mo V30]) (by rw [hV30]; exact P1_mo V29 (C8_offer V29 0 ((nI 0) + (M 1 109)))) A1_mo 0 0 rfl rfl rfl rfl (Nat.le_of_ble_eq_true rfl) dX8_letGo_196 ⟨Nat.zero_le _, Nat.zero_le _⟩ ?_
                  subst hQ; exact j_vret cx hr (by subst hV30; subst hV29; subst hV28; subst hV27; subst hV26; subst hV25; simp only [C8_letGo, if_neg c23_1, if_neg c29_2, if_neg c34_3, if_neg c38_8, if_pos c47_13, if_neg c57_18]) hA dX8_letGo_199
                | succ n ih =>
                  intro i hi h0
                  obtain ⟨V31, hV31⟩ : ∃ z, z = setC M 1 (shl (M 1) 109 i) := ⟨_, rfl⟩
                  refine j_bs (Bs' := [moB Y mo V31]) (by rw [hV31]) ?_
                  refine j_iload cx (pc := 105) dX8_letGo_105 0 rfl ?_
                  refine j_bipush cx (pc := 107) (v := (nI 19)) dX8_letGo_107 (by decide) ?_
                  refine j_icmpN_ge cx (pc := 109) (by omega) (by decide) (tgt := 140) dX8_letGo_109 (by decide) (fun c109_22 => by exfalso; omega) (fun c109_22 => ?_)
                  refine j_aload_n cx (pc := 112) dX8_letGo_112 7 rfl ?_
                  refine j_get cx (pc := 113) 0 0 rfl rfl (C := RX8) (T := TX8) (N := 12) rfl hinX8 0 (by decide) f7 rfl (v := .ref (mo 1)) rfl dX8_letGo_113 ?_
                  refine j_iload cx (pc := 116) dX8_letGo_116 2 rfl ?_
                  refine j_iload cx (pc := 118) dX8_letGo_118 0 rfl ?_
                  refine j_iaddN cx (pc := 120) dX8_letGo_120 ?_
                  refine j_aload_n cx (pc := 121) dX8_letGo_121 7 rfl ?_
                  refine j_get cx (pc := 122) 0 0 rfl rfl (C := RX8) (T := TX8) (N := 12) rfl hinX8 0 (by decide) f7 rfl (v := .ref (mo 1)) rfl dX8_letGo_122 ?_
                  refine j_iload cx (pc := 125) dX8_letGo_125 2 rfl ?_
                  refine j_iload cx (pc := 127) dX8_letGo_127 0 rfl ?_
                  refine j_iaddN cx (pc := 129) dX8_letGo_129 ?_
                  refine j_iconst cx (pc := 130) (v := (nI 1)) dX8_letGo_130 (by decide) ?_
                  refine j_iaddN cx (pc := 131) dX8_letGo_131 ?_
                  refine j_iald cx (pc := 132) 0 1 0 rfl rfl rfl (by omega) (by decide) dX8_letGo_132 ?_
                  obtain ⟨V32, hV32⟩ : ∃ z, z = up1 V31 1 (109 + i) (V31 1 ((109 + i) + 1)) := ⟨_, rfl⟩
                  refine j_iast cx (pc := 133) 0 1 0 rfl rfl rfl (by omega) (by decide) (Bs' := [moB Y mo V32]) (by rw [hV32]; rfl) dX8_letGo_133 ?_
                  refine j_iinc cx (pc := 134) (v := (nI (i + 1))) (lv' := [(7, .int (nI (i + 1))), (6, .int ((nI 0) + (M 1 109))), (5, .int (nI 109)), (4, .int (nI 0)), (3, .int (nI 0)), (2, .int (M 1 12)), (1, .int (M 1 11)), (0, .ref (mo 0))]) dX8_letGo_134 0 rfl (show nI i + nI 1 = nI (i + 1) from nI_add _ _) (by decide) rfl ?_
                  refine j_goto cx (pc := 137) (tgt := 105) dX8_letGo_137 (by decide) ?_
                  refine j_lvm (lv' := [(7, .int (nI (i + 1))), (6, .int ((nI 0) + (M 1 109))), (5, .int (nI 109)), (4, .int (nI 0)), (3, .int (nI 0)), (2, .int (M 1 12)), (1, .int (M 1 11)), (0, .ref (mo 0))]) (by intro z hz; simp only [List.mem_cons, List.not_mem_nil, or_false] at hz ⊢; rcases hz with rfl | rfl | rfl | rfl | rfl | rfl | rfl | rfl <;> simp) ?_
                  refine j_bs (Bs' := [moB Y mo (setC M 1 (shl (M 1) 109 (i + 1)))]) (by subst hV32; subst hV31; rw [shl_s M 1 109 i]) ?_
                  exact ih (i + 1) (by omega) (by omega)
              refine j_bs (Bs' := [moB Y mo (setC M 1 (shl (M 1) 109 0))]) (by rw [shl_0 M 1 109]) ?_
              refine j_lvm (lv' := [(7, .int (nI 0)), (6, .int ((nI 0) + (M 1 109))), (5, .int (nI 109)), (4, .int (nI 0)), (3, .int (nI 0)), (2, .int (M 1 12)), (1, .int (M 1 11)), (0, .ref (mo 0))]) (by intro z hz; simp only [List.mem_cons, List.not_mem_nil, or_false] at hz ⊢; rcases hz with rfl | rfl | rfl | rfl | rfl | rfl | rfl | rfl <;> simp) ?_
              exact lp20 (19 - 0) 0 (by omega) (Nat.le_refl _)
            · skip
              refine j_iconst cx (pc := 60) (v := (nI 1)) dX8_letGo_60 (by decide) ?_
              refine j_goto cx (pc := 61) (tgt := 65) dX8_letGo_61 (by decide) ?_
              refine j_istore_n cx (pc := 65) (lv' := [(3, .int (nI 1)), (2, .int (M 1 12)), (1, .int (M 1 11)), (0, .ref (mo 0))]) dX8_letGo_65 (by decide) rfl ?_
              refine j_iload_n cx (pc := 66) dX8_letGo_66 0 rfl ?_
              refine j_ifN_eq cx (pc := 67) (by decide) (tgt := 74) dX8_letGo_67 (by decide) (fun c67_23 => by exfalso; revert c67_23; decide) (fun c67_23 => ?_)
              refine j_iconst cx (pc := 70) (v := (nI 1)) dX8_letGo_70 (by decide) ?_
              refine j_goto cx (pc := 71) (tgt := 75) dX8_letGo_71 (by decide) ?_
              refine j_istore cx (pc := 75) (lv' := [(4, .int (nI 1)), (3, .int (nI 1)), (2, .int (M 1 12)), (1, .int (M 1 11)), (0, .ref (mo 0))]) dX8_letGo_75 (by decide) rfl ?_
              refine j_bipush cx (pc := 77) (v := (nI 109)) dX8_letGo_77 (by decide) ?_
              refine j_bipush cx (pc := 79) (v := (nI 20)) dX8_letGo_79 (by decide) ?_
              refine j_iload cx (pc := 81) dX8_letGo_81 0 rfl ?_
              refine j_imulN cx (pc := 83) dX8_letGo_83 ?_
              refine j_top (show nI (20 * 1) = nI 20 from rfl) ?_
              refine j_iaddN cx (pc := 84) dX8_letGo_84 ?_
              refine j_top (show nI (109 + 20) = nI 129 from rfl) ?_
              refine j_istore cx (pc := 85) (lv' := [(5, .int (nI 129)), (4, .int (nI 1)), (3, .int (nI 1)), (2, .int (M 1 12)), (1, .int (M 1 11)), (0, .ref (mo 0))]) dX8_letGo_85 (by decide) rfl ?_
              refine j_bipush cx (pc := 87) (v := (nI 16)) dX8_letGo_87 (by decide) ?_
              refine j_iload cx (pc := 89) dX8_letGo_89 1 rfl ?_
              refine j_imulN cx (pc := 91) dX8_letGo_91 ?_
              refine j_top (show nI (16 * 1) = nI 16 from rfl) ?_
              refine j_aload_n cx (pc := 92) dX8_letGo_92 5 rfl ?_
              refine j_get cx (pc := 93) 0 0 rfl rfl (C := RX8) (T := TX8) (N := 12) rfl hinX8 0 (by decide) f7 rfl (v := .ref (mo 1)) rfl dX8_letGo_93 ?_
              refine j_iload cx (pc := 96) dX8_letGo_96 0 rfl ?_
              refine j_iald cx (pc := 98) 0 1 0 rfl rfl rfl (by decide) (by decide) dX8_letGo_98 ?_
              refine j_iadd cx (pc := 99) dX8_letGo_99 ?_
              refine j_istore cx (pc := 100) (lv' := [(6, .int ((nI 16) + (M 1 129))), (5, .int (nI 129)), (4, .int (nI 1)), (3, .int (nI 1)), (2, .int (M 1 12)), (1, .int (M 1 11)), (0, .ref (mo 0))]) dX8_letGo_100 (by decide) rfl ?_
              refine j_iconst cx (pc := 102) (v := (nI 0)) dX8_letGo_102 (by decide) ?_
              refine j_istore cx (pc := 103) (lv' := [(7, .int (nI 0)), (6, .int ((nI 16) + (M 1 129))), (5, .int (nI 129)), (4, .int (nI 1)), (3, .int (nI 1)), (2, .int (M 1 12)), (1, .int (M 1 11)), (0, .ref (mo 0))]) dX8_letGo_103 (by decide) rfl ?_
              have lp24 : ∀ (n i : Nat), i + n = 19 → 0 ≤ i → J p l e { frames := 2, cells := 0, slots := 0, locals := 47 } s m args below meth c 8 D A 0 0 Q ([moB Y mo (setC M 1 (shl (M 1) 129 i))]) 105 [(7, .int (nI i)), (6, .int ((nI 16) + (M 1 129))), (5, .int (nI 129)), (4, .int (nI 1)), (3, .int (nI 1)), (2, .int (M 1 12)), (1, .int (M 1 11)), (0, .ref (mo 0))] [] := by
                intro n
                induction n with
                | zero =>
                  intro i hi h0
                  have hi2 : i = 19 := by omega
                  subst hi2
                  obtain ⟨V33, hV33⟩ : ∃ z, z = setC M 1 (shl (M 1) 129 19) := ⟨_, rfl⟩
                  have cnV33 : vp_in (V33 1 10) 99 := by rw [hV33]; exact e_setC (by show (if _ then _ else _) = _; exact if_neg (by omega)) hn
                  refine j_bs (Bs' := [moB Y mo V33]) (by rw [hV33]) ?_
                  refine j_iload cx (pc := 105) dX8_letGo_105 0 rfl ?_
                  refine j_bipush cx (pc := 107) (v := (nI 19)) dX8_letGo_107 (by decide) ?_
                  refine j_icmpN_ge cx (pc := 109) (by decide) (by decide) (tgt := 140) dX8_letGo_109 (by decide) (fun c109_25 => ?_) (fun c109_25 => by exfalso; revert c109_25; decide)
                  refine j_aload_n cx (pc := 140) dX8_letGo_140 7 rfl ?_
                  refine j_get cx (pc := 141) 0 0 rfl rfl (C := RX8) (T := TX8) (N := 12) rfl hinX8 0 (by decide) f7 rfl (v := .ref (mo 1)) rfl dX8_letGo_141 ?_
                  refine j_bipush cx (pc := 144) (v := (nI 11)) dX8_letGo_144 (by decide) ?_
                  refine j_iload cx (pc := 146) dX8_letGo_146 3 rfl ?_
                  refine j_iaddN cx (pc := 148) dX8_letGo_148 ?_
                  refine j_top (show nI (11 + 1) = nI 12 from rfl) ?_
                  refine j_dup2 cx (pc := 149) dX8_letGo_149 rfl rfl ?_
                  refine j_iald cx (pc := 150) 0 1 0 rfl rfl rfl (by decide) (by decide) dX8_letGo_150 ?_
                  refine j_iconst cx (pc := 151) (v := (nI 1)) dX8_letGo_151 (by decide) ?_
                  refine j_isub cx (pc := 152) dX8_letGo_152 ?_
                  obtain ⟨V34, hV34⟩ : ∃ z, z = up1 V33 1 12 ((V33 1 12) - (nI 1)) := ⟨_, rfl⟩
                  have cnV34 : vp_in (V34 1 10) 99 := by rw [hV34]; exact cn_up (by omega) cnV33
                  refine j_iast cx (pc := 153) 0 1 0 rfl rfl rfl (by decide) (by decide) (Bs' := [moB Y mo V34]) (by rw [hV34]; rfl) dX8_letGo_153 ?_
                  refine j_aload_n cx (pc := 154) dX8_letGo_154 7 rfl ?_
                  refine j_get cx (pc := 155) 0 0 rfl rfl (C := RX8) (T := TX8) (N := 12) rfl hinX8 0 (by decide) f7 rfl (v := .ref (mo 1)) rfl dX8_letGo_155 ?_
                  refine j_bipush cx (pc := 158) (v := (nI 8)) dX8_letGo_158 (by decide) ?_
                  refine j_iload cx (pc := 160) dX8_letGo_160 3 rfl ?_
                  obtain ⟨V35, hV35⟩ : ∃ z, z = up1 V34 1 8 (nI 1) := ⟨_, rfl⟩
                  have cnV35 : vp_in (V35 1 10) 99 := by rw [hV35]; exact cn_up (by omega) cnV34
                  refine j_iast cx (pc := 162) 0 1 0 rfl rfl rfl (by decide) (by decide) (Bs' := [moB Y mo V35]) (by rw [hV35]; rfl) dX8_letGo_162 ?_
                  refine j_aload_n cx (pc := 163) dX8_letGo_163 7 rfl ?_
                  refine j_get cx (pc := 164) 0 0 rfl rfl (C := RX8) (T := TX8) (N := 12) rfl hinX8 0 (by decide) f7 rfl (v := .ref (mo 1)) rfl dX8_letGo_164 ?_
                  refine j_sipush cx (pc := 167) (v := (nI 149)) dX8_letGo_167 (by decide) ?_
                  refine j_aload_n cx (pc := 170) dX8_letGo_170 7 rfl ?_
                  refine j_get cx (pc := 171) 0 0 rfl rfl (C := RX8) (T := TX8) (N := 12) rfl hinX8 0 (by decide) f7 rfl (v := .ref (mo 1)) rfl dX8_letGo_171 ?_
                  refine j_bipush cx (pc := 174) (v := (nI 9)) dX8_letGo_174 (by decide) ?_
                  refine j_iald cx (pc := 176) 0 1 0 rfl rfl rfl (by decide) (by decide) dX8_letGo_176 ?_
                  have e9 : V35 1 9 = nI (tN (M 1 9)) := by subst_vars; exact inN hpd
                  refine j_top (show (V35 1 9) = (nI (tN (M 1 9))) from e9) ?_
                  refine j_iaddN cx (pc := 177) dX8_letGo_177 ?_
                  refine j_iload cx (pc := 178) dX8_letGo_178 1 rfl ?_
                  obtain ⟨V36, hV36⟩ : ∃ z, z = up1 V35 1 (149 + (tN (M 1 9))) ((nI 16) + (M 1 129)) := ⟨_, rfl⟩
                  have cnV36 : vp_in (V36 1 10) 99 := by rw [hV36]; exact cn_up (by omega) cnV35
                  refine j_iast cx (pc := 180) 0 1 0 rfl rfl rfl (by omega) (by decide) (Bs' := [moB Y mo V36]) (by rw [hV36]; rfl) dX8_letGo_180 ?_
                  refine j_aload_n cx (pc := 181) dX8_letGo_181 7 rfl ?_
                  refine j_get cx (pc := 182) 0 0 rfl rfl (C := RX8) (T := TX8) (N := 12) rfl hinX8 0 (by decide) f7 rfl (v := .ref (mo 1)) rfl dX8_letGo_182 ?_
                  refine j_bipush cx (pc := 185) (v := (nI 9)) dX8_letGo_185 (by decide) ?_
                  refine j_dup2 cx (pc := 187) dX8_letGo_187 rfl rfl ?_
                  refine j_iald cx (pc := 188) 0 1 0 rfl rfl rfl (by decide) (by decide) dX8_letGo_188 ?_
                  refine j_iconst cx (pc := 189) (v := (nI 1)) dX8_letGo_189 (by decide) ?_
                  refine j_iadd cx (pc := 190) dX8_letGo_190 ?_
                  obtain ⟨V37, hV37⟩ : ∃ z, z = up1 V36 1 9 ((V36 1 9) + (nI 1)) := ⟨_, rfl⟩
                  have cnV37 : vp_in (V37 1 10) 99 := by rw [hV37]; exact cn_up (by omega) cnV36
                  refine j_iast cx (pc := 191) 0 1 0 rfl rfl rfl (by decide) (by decide) (Bs' := [moB Y mo V37]) (by rw [hV37]; rfl) dX8_letGo_191 ?_
                  refine j_aload_n cx (pc := 192) dX8_letGo_192 7 rfl ?_
                  refine j_iconst cx (pc := 193) (v := (nI 0)) dX8_letGo_193 (by decide) ?_
                  refine j_iload cx (pc := 194) dX8_letGo_194 1 rfl ?_
                  obtain ⟨V38, hV38⟩ : ∃ z, z = (C8_offer V37 0 ((nI 16) + (M 1 129))) := ⟨_, rfl⟩
                  have cnV38 : vp_in (V38 1 10) 101 := by rw [hV38]; exact cn_offer cnV37
                  refine j_callv cx (pc := 196) 2 (c_X8_offer l D Y mo V37 0 ((nI 16) + (M 1 129)) (by omega) (vp_mono cnV37 (by decide))) gX8_letGo_X8_offer rfl (by decide +kernel) rfl ⟨Nat.le_of_ble_eq_true rfl, Nat.le_of_ble_eq_true rfl⟩ [0] rfl (by decide) (Bs' := [moB Y mo V38]) (by rw [hV38]; exact P1_mo V37 (C8_offer V37 0 ((nI 16) + (M 1 129)))) A1_mo 0 0 rfl rfl rfl rfl (Nat.le_of_ble_eq_true rfl) dX8_letGo_196 ⟨Nat.zero_le _, Nat.zero_le _⟩ ?_
                  subst hQ; exact j_vret cx hr (by subst hV38; subst hV37; subst hV36; subst hV35; subst hV34; subst hV33; simp only [C8_letGo, if_neg c23_1, if_neg c29_2, if_neg c34_3, if_neg c38_8, if_pos c47_13, if_pos c57_18]) hA dX8_letGo_199
                | succ n ih =>
                  intro i hi h0
                  obtain ⟨V39, hV39⟩ : ∃ z, z = setC M 1 (shl (M 1) 129 i) := ⟨_, rfl⟩
                  refine j_bs (Bs' := [moB Y mo V39]) (by rw [hV39]) ?_
                  refine j_iload cx (pc := 105) dX8_letGo_105 0 rfl ?_
                  refine j_bipush cx (pc := 107) (v := (nI 19)) dX8_letGo_107 (by decide) ?_
                  refine j_icmpN_ge cx (pc := 109) (by omega) (by decide) (tgt := 140) dX8_letGo_109 (by decide) (fun c109_26 => by exfalso; omega) (fun c109_26 => ?_)
                  refine j_aload_n cx (pc := 112) dX8_letGo_112 7 rfl ?_
                  refine j_get cx (pc := 113) 0 0 rfl rfl (C := RX8) (T := TX8) (N := 12) rfl hinX8 0 (by decide) f7 rfl (v := .ref (mo 1)) rfl dX8_letGo_113 ?_
                  refine j_iload cx (pc := 116) dX8_letGo_116 2 rfl ?_
                  refine j_iload cx (pc := 118) dX8_letGo_118 0 rfl ?_
                  refine j_iaddN cx (pc := 120) dX8_letGo_120 ?_
                  refine j_aload_n cx (pc := 121) dX8_letGo_121 7 rfl ?_
                  refine j_get cx (pc := 122) 0 0 rfl rfl (C := RX8) (T := TX8) (N := 12) rfl hinX8 0 (by decide) f7 rfl (v := .ref (mo 1)) rfl dX8_letGo_122 ?_
                  refine j_iload cx (pc := 125) dX8_letGo_125 2 rfl ?_
                  refine j_iload cx (pc := 127) dX8_letGo_127 0 rfl ?_
                  refine j_iaddN cx (pc := 129) dX8_letGo_129 ?_
                  refine j_iconst cx (pc := 130) (v := (nI 1)) dX8_letGo_130 (by decide) ?_
                  refine j_iaddN cx (pc := 131) dX8_letGo_131 ?_
                  refine j_iald cx (pc := 132) 0 1 0 rfl rfl rfl (by omega) (by decide) dX8_letGo_132 ?_
                  obtain ⟨V40, hV40⟩ : ∃ z, z = up1 V39 1 (129 + i) (V39 1 ((129 + i) + 1)) := ⟨_, rfl⟩
                  refine j_iast cx (pc := 133) 0 1 0 rfl rfl rfl (by omega) (by decide) (Bs' := [moB Y mo V40]) (by rw [hV40]; rfl) dX8_letGo_133 ?_
                  refine j_iinc cx (pc := 134) (v := (nI (i + 1))) (lv' := [(7, .int (nI (i + 1))), (6, .int ((nI 16) + (M 1 129))), (5, .int (nI 129)), (4, .int (nI 1)), (3, .int (nI 1)), (2, .int (M 1 12)), (1, .int (M 1 11)), (0, .ref (mo 0))]) dX8_letGo_134 0 rfl (show nI i + nI 1 = nI (i + 1) from nI_add _ _) (by decide) rfl ?_
                  refine j_goto cx (pc := 137) (tgt := 105) dX8_letGo_137 (by decide) ?_
                  refine j_lvm (lv' := [(7, .int (nI (i + 1))), (6, .int ((nI 16) + (M 1 129))), (5, .int (nI 129)), (4, .int (nI 1)), (3, .int (nI 1)), (2, .int (M 1 12)), (1, .int (M 1 11)), (0, .ref (mo 0))]) (by intro z hz; simp only [List.mem_cons, List.not_mem_nil, or_false] at hz ⊢; rcases hz with rfl | rfl | rfl | rfl | rfl | rfl | rfl | rfl <;> simp) ?_
                  refine j_bs (Bs' := [moB Y mo (setC M 1 (shl (M 1) 129 (i + 1)))]) (by subst hV40; subst hV39; rw [shl_s M 1 129 i]) ?_
                  exact ih (i + 1) (by omega) (by omega)
              refine j_bs (Bs' := [moB Y mo (setC M 1 (shl (M 1) 129 0))]) (by rw [shl_0 M 1 129]) ?_
              refine j_lvm (lv' := [(7, .int (nI 0)), (6, .int ((nI 16) + (M 1 129))), (5, .int (nI 129)), (4, .int (nI 1)), (3, .int (nI 1)), (2, .int (M 1 12)), (1, .int (M 1 11)), (0, .ref (mo 0))]) (by intro z hz; simp only [List.mem_cons, List.not_mem_nil, or_false] at hz ⊢; rcases hz with rfl | rfl | rfl | rfl | rfl | rfl | rfl | rfl <;> simp) ?_
              exact lp24 (19 - 0) 0 (by omega) (Nat.le_refl _)
    · skip
      subst hQ; exact j_vret cx hr (by simp only [C8_letGo, if_neg c23_1, if_pos c29_2]) hA dX8_letGo_32
def C8_requestArrives (M : Nat → Nat → Int32) (link : Nat) (value : Int32) : Nat → Nat → Int32 :=
  let V1 := (C8_setEnd M link 1 value)
  if value = 0 then
    let V5 := (C8_answer V1 link (nI 0) (nI 0))
    V5
  else
    if link = (tN (M 1 3)) then
      let V4 := (C8_note V1 )
      V4
    else
      if (V1 1 (97 + link)) = 0 then
        let V3 := (C8_take V1 link)
        V3
      else
        let V2 := up1 V1 1 (83 + link) (nI 1)
        V2
set_option maxHeartbeats 4000000 in
set_option maxRecDepth 100000 in
theorem c_X8_requestArrives (l : Launch) (D : va_G) (Y : Nat → ClassId) (mo : Nat → Nat) (M : Nat → Nat → Int32) (link : Nat) (value : Int32) (hk : link < 7) (hst : vp_in (M 1 3) 7) (hkn : link ≤ tN (M 1 3)) (hn : vp_in (M 1 10) 98) : CtV l yX8_requestArrives wsX8_requestArrives 3 71 D (tyL Y) ([moB Y mo M]) [.ref (mo 0), .int (nI link), .int value] ([moB Y mo (C8_requestArrives M link value)]) := by
  refine CtV.intro (own := RX8) (cc := cX8_requestArrives) (maxL := 3) rfl (by decide +kernel) rfl (Nat.le_of_ble_eq_true rfl) (fun p e s m args below meth c A Q hA hQ cx hr => ?_)
  have hinX8 : ∀ w ∈ wsX80, w ∈ wsX8_requestArrives := by decide +kernel
  have f7 : Cond.fieldLink RX8 7 "FourPhasesModel" "state" "[I" ∈ wsX8_requestArrives := by decide +kernel
  have hst7 : tN (M 1 3) < 7 := inL hst
  refine j_aload_n cx (pc := 0) dX8_requestArrives_0 0 rfl ?_
  refine j_iload_n cx (pc := 1) dX8_requestArrives_1 1 rfl ?_
  refine j_iconst cx (pc := 2) (v := (nI 1)) dX8_requestArrives_2 (by decide) ?_
  refine j_iload_n cx (pc := 3) dX8_requestArrives_3 2 rfl ?_
  obtain ⟨V1, hV1⟩ : ∃ z, z = (C8_setEnd M link 1 value) := ⟨_, rfl⟩
  have cnV1 : vp_in (V1 1 10) 98 := by rw [hV1]; exact cn_setEnd hn
  refine j_callv cx (pc := 4) 3 (c_X8_setEnd l D Y mo M link 1 value (by omega) (by omega)) gX8_requestArrives_X8_setEnd rfl (by decide +kernel) rfl ⟨Nat.le_of_ble_eq_true rfl, Nat.le_of_ble_eq_true rfl⟩ [0] rfl (by decide) (Bs' := [moB Y mo V1]) (by rw [hV1]; exact P1_mo M (C8_setEnd M link 1 value)) A1_mo 0 0 rfl rfl rfl rfl (Nat.le_of_ble_eq_true rfl) dX8_requestArrives_4 ⟨Nat.zero_le _, Nat.zero_le _⟩ ?_
  refine j_iload_n cx (pc := 7) dX8_requestArrives_7 2 rfl ?_
  refine j_if_ne cx (pc := 8) (tgt := 21) dX8_requestArrives_8 (by decide) (fun c8_1 => ?_) (fun c8_1 => ?_)
  · skip
    refine j_iload_n cx (pc := 21) dX8_requestArrives_21 1 rfl ?_
    refine j_aload_n cx (pc := 22) dX8_requestArrives_22 0 rfl ?_
    refine j_get cx (pc := 23) 0 0 rfl rfl (C := RX8) (T := TX8) (N := 12) rfl hinX8 0 (by decide) f7 rfl (v := .ref (mo 1)) rfl dX8_requestArrives_23 ?_
    refine j_iconst cx (pc := 26) (v := (nI 3)) dX8_requestArrives_26 (by decide) ?_
    refine j_iald cx (pc := 27) 0 1 0 rfl rfl rfl (by decide) (by decide) dX8_requestArrives_27 ?_
    have e3 : V1 1 3 = nI (tN (M 1 3)) := by rw [hV1]; show up1 M 1 _ _ 1 3 = _; rw [up1_in (by omega)]; exact inN hst
    refine j_top (show (V1 1 3) = (nI (tN (M 1 3))) from e3) ?_
    refine j_icmpN_ne cx (pc := 28) (by omega) (by omega) (tgt := 38) dX8_requestArrives_28 (by decide) (fun c28_2 => ?_) (fun c28_2 => ?_)
    · skip
      refine j_aload_n cx (pc := 38) dX8_requestArrives_38 0 rfl ?_
      refine j_get cx (pc := 39) 0 0 rfl rfl (C := RX8) (T := TX8) (N := 12) rfl hinX8 0 (by decide) f7 rfl (v := .ref (mo 1)) rfl dX8_requestArrives_39 ?_
      refine j_bipush cx (pc := 42) (v := (nI 97)) dX8_requestArrives_42 (by decide) ?_
      refine j_iload_n cx (pc := 44) dX8_requestArrives_44 1 rfl ?_
      refine j_iaddN cx (pc := 45) dX8_requestArrives_45 ?_
      refine j_iald cx (pc := 46) 0 1 0 rfl rfl rfl (by omega) (by decide) dX8_requestArrives_46 ?_
      refine j_if_ne cx (pc := 47) (tgt := 58) dX8_requestArrives_47 (by decide) (fun c47_3 => ?_) (fun c47_3 => ?_)
      · skip
        refine j_aload_n cx (pc := 58) dX8_requestArrives_58 0 rfl ?_
        refine j_get cx (pc := 59) 0 0 rfl rfl (C := RX8) (T := TX8) (N := 12) rfl hinX8 0 (by decide) f7 rfl (v := .ref (mo 1)) rfl dX8_requestArrives_59 ?_
        refine j_bipush cx (pc := 62) (v := (nI 83)) dX8_requestArrives_62 (by decide) ?_
        refine j_iload_n cx (pc := 64) dX8_requestArrives_64 1 rfl ?_
        refine j_iaddN cx (pc := 65) dX8_requestArrives_65 ?_
        refine j_iconst cx (pc := 66) (v := (nI 1)) dX8_requestArrives_66 (by decide) ?_
        obtain ⟨V2, hV2⟩ : ∃ z, z = up1 V1 1 (83 + link) (nI 1) := ⟨_, rfl⟩
        have cnV2 : vp_in (V2 1 10) 98 := by rw [hV2]; exact cn_up (by omega) cnV1
        refine j_iast cx (pc := 67) 0 1 0 rfl rfl rfl (by omega) (by decide) (Bs' := [moB Y mo V2]) (by rw [hV2]; rfl) dX8_requestArrives_67 ?_
        subst hQ; exact j_vret cx hr (by subst hV2; subst hV1; simp only [C8_requestArrives, if_neg c8_1, if_neg c28_2, if_neg c47_3]) hA dX8_requestArrives_68
      · skip
        refine j_aload_n cx (pc := 50) dX8_requestArrives_50 0 rfl ?_
        refine j_iload_n cx (pc := 51) dX8_requestArrives_51 1 rfl ?_
        obtain ⟨V3, hV3⟩ : ∃ z, z = (C8_take V1 link) := ⟨_, rfl⟩
        have cnV3 : vp_in (V3 1 10) 101 := by rw [hV3]; exact cn_take cnV1
        refine j_callv cx (pc := 52) 1 (c_X8_take l D Y mo V1 link (by omega) (vp_mono cnV1 (by decide))) gX8_requestArrives_X8_take rfl (by decide +kernel) rfl ⟨Nat.le_of_ble_eq_true rfl, Nat.le_of_ble_eq_true rfl⟩ [0] rfl (by decide) (Bs' := [moB Y mo V3]) (by rw [hV3]; exact P1_mo V1 (C8_take V1 link)) A1_mo 0 0 rfl rfl rfl rfl (Nat.le_of_ble_eq_true rfl) dX8_requestArrives_52 ⟨Nat.zero_le _, Nat.zero_le _⟩ ?_
        refine j_goto cx (pc := 55) (tgt := 68) dX8_requestArrives_55 (by decide) ?_
        subst hQ; exact j_vret cx hr (by subst hV3; subst hV1; simp only [C8_requestArrives, if_neg c8_1, if_neg c28_2, if_pos c47_3]) hA dX8_requestArrives_68
    · skip
      refine j_aload_n cx (pc := 31) dX8_requestArrives_31 0 rfl ?_
      obtain ⟨V4, hV4⟩ : ∃ z, z = (C8_note V1 ) := ⟨_, rfl⟩
      have cnV4 : vp_in (V4 1 10) 99 := by rw [hV4]; exact cn_note cnV1
      refine j_callv cx (pc := 32) 0 (c_X8_note l D Y mo V1  (by rw [e3]; rw [← inN hst]; exact hst) (vp_mono cnV1 (by decide))) gX8_requestArrives_X8_note rfl (by decide +kernel) rfl ⟨Nat.le_of_ble_eq_true rfl, Nat.le_of_ble_eq_true rfl⟩ [0] rfl (by decide) (Bs' := [moB Y mo V4]) (by rw [hV4]; exact P1_mo V1 (C8_note V1 )) A1_mo 0 0 rfl rfl rfl rfl (Nat.le_of_ble_eq_true rfl) dX8_requestArrives_32 ⟨Nat.zero_le _, Nat.zero_le _⟩ ?_
      refine j_goto cx (pc := 35) (tgt := 68) dX8_requestArrives_35 (by decide) ?_
      subst hQ; exact j_vret cx hr (by subst hV4; subst hV1; simp only [C8_requestArrives, if_neg c8_1, if_pos c28_2]) hA dX8_requestArrives_68
  · skip
    refine j_aload_n cx (pc := 11) dX8_requestArrives_11 0 rfl ?_
    refine j_iload_n cx (pc := 12) dX8_requestArrives_12 1 rfl ?_
    refine j_iconst cx (pc := 13) (v := (nI 0)) dX8_requestArrives_13 (by decide) ?_
    refine j_iconst cx (pc := 14) (v := (nI 0)) dX8_requestArrives_14 (by decide) ?_
    obtain ⟨V5, hV5⟩ : ∃ z, z = (C8_answer V1 link (nI 0) (nI 0)) := ⟨_, rfl⟩
    have cnV5 : vp_in (V5 1 10) 99 := by rw [hV5]; exact cn_answer cnV1
    refine j_callv cx (pc := 15) 3 (c_X8_answer l D Y mo V1 link (nI 0) (nI 0) (by omega) (vp_mono cnV1 (by decide))) gX8_requestArrives_X8_answer rfl (by decide +kernel) rfl ⟨Nat.le_of_ble_eq_true rfl, Nat.le_of_ble_eq_true rfl⟩ [0] rfl (by decide) (Bs' := [moB Y mo V5]) (by rw [hV5]; exact P1_mo V1 (C8_answer V1 link (nI 0) (nI 0))) A1_mo 0 0 rfl rfl rfl rfl (Nat.le_of_ble_eq_true rfl) dX8_requestArrives_15 ⟨Nat.zero_le _, Nat.zero_le _⟩ ?_
    refine j_goto cx (pc := 18) (tgt := 68) dX8_requestArrives_18 (by decide) ?_
    subst hQ; exact j_vret cx hr (by subst hV5; subst hV1; simp only [C8_requestArrives, if_pos c8_1]) hA dX8_requestArrives_68
theorem se_in {M : Nat → Nat → Int32} {k w j : Nat} {x : Int32} (h : j < 34) : C8_setEnd M k w x 1 j = M 1 j := up1_in (by omega)
def C8_answerArrives (M : Nat → Nat → Int32) (link : Nat) (value : Int32) : Nat → Nat → Int32 :=
  let V1 := (C8_setEnd M link 3 value)
  if value = (nI 1) then
    let V5 := (C8_setEnd V1 link 0 (nI 0))
    let V6 := (C8_make V5 link 0 (nI 0) (nI 0))
    if link = 0 then
      V6
    else
      let V7 := up1 V6 1 ((97 + link) - 1) (nI 0)
      if (V7 1 ((83 + link) - 1)) = (nI 1) then
        let V8 := up1 V7 1 ((83 + link) - 1) (nI 0)
        let V9 := (C8_take V8 (link - 1))
        V9
      else
        V7
  else
    let V2 := up1 V1 1 (76 + link) (nI 1)
    if link = 0 then
      let V4 := (C8_letGo V2 )
      V4
    else
      if (V2 1 ((97 + link) - 1)) = (nI 1) then
        let V3 := (C8_offer V2 link (V2 1 ((103 + link) - 1)))
        V3
      else
        V2
set_option maxHeartbeats 4000000 in
set_option maxRecDepth 100000 in
theorem c_X8_answerArrives (l : Launch) (D : va_G) (Y : Nat → ClassId) (mo : Nat → Nat) (M : Nat → Nat → Int32) (link : Nat) (value : Int32) (hk : link < 7) (hpd : vp_in (M 1 9) 20) (hn : vp_in (M 1 10) 97) : CtV l yX8_answerArrives wsX8_answerArrives 3 74 D (tyL Y) ([moB Y mo M]) [.ref (mo 0), .int (nI link), .int value] ([moB Y mo (C8_answerArrives M link value)]) := by
  refine CtV.intro (own := RX8) (cc := cX8_answerArrives) (maxL := 3) rfl (by decide +kernel) rfl (Nat.le_of_ble_eq_true rfl) (fun p e s m args below meth c A Q hA hQ cx hr => ?_)
  have hinX8 : ∀ w ∈ wsX80, w ∈ wsX8_answerArrives := by decide +kernel
  have f7 : Cond.fieldLink RX8 7 "FourPhasesModel" "state" "[I" ∈ wsX8_answerArrives := by decide +kernel
  refine j_aload_n cx (pc := 0) dX8_answerArrives_0 0 rfl ?_
  refine j_iload_n cx (pc := 1) dX8_answerArrives_1 1 rfl ?_
  refine j_iconst cx (pc := 2) (v := (nI 3)) dX8_answerArrives_2 (by decide) ?_
  refine j_iload_n cx (pc := 3) dX8_answerArrives_3 2 rfl ?_
  obtain ⟨V1, hV1⟩ : ∃ z, z = (C8_setEnd M link 3 value) := ⟨_, rfl⟩
  have cnV1 : vp_in (V1 1 10) 97 := by rw [hV1]; exact cn_setEnd hn
  refine j_callv cx (pc := 4) 3 (c_X8_setEnd l D Y mo M link 3 value (by omega) (by omega)) gX8_answerArrives_X8_setEnd rfl (by decide +kernel) rfl ⟨Nat.le_of_ble_eq_true rfl, Nat.le_of_ble_eq_true rfl⟩ [0] rfl (by decide) (Bs' := [moB Y mo V1]) (by rw [hV1]; exact P1_mo M (C8_setEnd M link 3 value)) A1_mo 0 0 rfl rfl rfl rfl (Nat.le_of_ble_eq_true rfl) dX8_answerArrives_4 ⟨Nat.zero_le _, Nat.zero_le _⟩ ?_
  refine j_iload_n cx (pc := 7) dX8_answerArrives_7 2 rfl ?_
  refine j_iconst cx (pc := 8) (v := (nI 1)) dX8_answerArrives_8 (by decide) ?_
  refine j_icmp_ne cx (pc := 9) (tgt := 82) dX8_answerArrives_9 (by decide) (fun c9_1 => ?_) (fun c9_1 => ?_)
  · skip
    refine j_aload_n cx (pc := 82) dX8_answerArrives_82 0 rfl ?_
    refine j_get cx (pc := 83) 0 0 rfl rfl (C := RX8) (T := TX8) (N := 12) rfl hinX8 0 (by decide) f7 rfl (v := .ref (mo 1)) rfl dX8_answerArrives_83 ?_
    refine j_bipush cx (pc := 86) (v := (nI 76)) dX8_answerArrives_86 (by decide) ?_
    refine j_iload_n cx (pc := 88) dX8_answerArrives_88 1 rfl ?_
    refine j_iaddN cx (pc := 89) dX8_answerArrives_89 ?_
    refine j_iconst cx (pc := 90) (v := (nI 1)) dX8_answerArrives_90 (by decide) ?_
    obtain ⟨V2, hV2⟩ : ∃ z, z = up1 V1 1 (76 + link) (nI 1) := ⟨_, rfl⟩
    have cnV2 : vp_in (V2 1 10) 97 := by rw [hV2]; exact cn_up (by omega) cnV1
    refine j_iast cx (pc := 91) 0 1 0 rfl rfl rfl (by omega) (by decide) (Bs' := [moB Y mo V2]) (by rw [hV2]; rfl) dX8_answerArrives_91 ?_
    refine j_iload_n cx (pc := 92) dX8_answerArrives_92 1 rfl ?_
    refine j_ifN_ne cx (pc := 93) (by omega) (tgt := 103) dX8_answerArrives_93 (by decide) (fun c93_2 => ?_) (fun c93_2 => ?_)
    · skip
      refine j_aload_n cx (pc := 103) dX8_answerArrives_103 0 rfl ?_
      refine j_get cx (pc := 104) 0 0 rfl rfl (C := RX8) (T := TX8) (N := 12) rfl hinX8 0 (by decide) f7 rfl (v := .ref (mo 1)) rfl dX8_answerArrives_104 ?_
      refine j_bipush cx (pc := 107) (v := (nI 97)) dX8_answerArrives_107 (by decide) ?_
      refine j_iload_n cx (pc := 109) dX8_answerArrives_109 1 rfl ?_
      refine j_iaddN cx (pc := 110) dX8_answerArrives_110 ?_
      refine j_iconst cx (pc := 111) (v := (nI 1)) dX8_answerArrives_111 (by decide) ?_
      refine j_isubN cx (pc := 112) (by omega) dX8_answerArrives_112 ?_
      refine j_iald cx (pc := 113) 0 1 0 rfl rfl rfl (by omega) (by decide) dX8_answerArrives_113 ?_
      refine j_iconst cx (pc := 114) (v := (nI 1)) dX8_answerArrives_114 (by decide) ?_
      refine j_icmp_ne cx (pc := 115) (tgt := 134) dX8_answerArrives_115 (by decide) (fun c115_3 => ?_) (fun c115_3 => ?_)
      · skip
        subst hQ; exact j_vret cx hr (by subst hV2; subst hV1; simp only [C8_answerArrives, if_neg c9_1, if_neg c93_2, if_neg c115_3]) hA dX8_answerArrives_134
      · skip
        refine j_aload_n cx (pc := 118) dX8_answerArrives_118 0 rfl ?_
        refine j_iload_n cx (pc := 119) dX8_answerArrives_119 1 rfl ?_
        refine j_aload_n cx (pc := 120) dX8_answerArrives_120 0 rfl ?_
        refine j_get cx (pc := 121) 0 0 rfl rfl (C := RX8) (T := TX8) (N := 12) rfl hinX8 0 (by decide) f7 rfl (v := .ref (mo 1)) rfl dX8_answerArrives_121 ?_
        refine j_bipush cx (pc := 124) (v := (nI 103)) dX8_answerArrives_124 (by decide) ?_
        refine j_iload_n cx (pc := 126) dX8_answerArrives_126 1 rfl ?_
        refine j_iaddN cx (pc := 127) dX8_answerArrives_127 ?_
        refine j_iconst cx (pc := 128) (v := (nI 1)) dX8_answerArrives_128 (by decide) ?_
        refine j_isubN cx (pc := 129) (by omega) dX8_answerArrives_129 ?_
        refine j_iald cx (pc := 130) 0 1 0 rfl rfl rfl (by omega) (by decide) dX8_answerArrives_130 ?_
        obtain ⟨V3, hV3⟩ : ∃ z, z = (C8_offer V2 link (V2 1 ((103 + link) - 1))) := ⟨_, rfl⟩
        have cnV3 : vp_in (V3 1 10) 99 := by rw [hV3]; exact cn_offer cnV2
        refine j_callv cx (pc := 131) 2 (c_X8_offer l D Y mo V2 link (V2 1 ((103 + link) - 1)) (by omega) (vp_mono cnV2 (by decide))) gX8_answerArrives_X8_offer rfl (by decide +kernel) rfl ⟨Nat.le_of_ble_eq_true rfl, Nat.le_of_ble_eq_true rfl⟩ [0] rfl (by decide) (Bs' := [moB Y mo V3]) (by rw [hV3]; exact P1_mo V2 (C8_offer V2 link (V2 1 ((103 + link) - 1)))) A1_mo 0 0 rfl rfl rfl rfl (Nat.le_of_ble_eq_true rfl) dX8_answerArrives_131 ⟨Nat.zero_le _, Nat.zero_le _⟩ ?_
        subst hQ; exact j_vret cx hr (by subst hV3; subst hV2; subst hV1; simp only [C8_answerArrives, if_neg c9_1, if_neg c93_2, if_pos c115_3]) hA dX8_answerArrives_134
    · skip
      refine j_aload_n cx (pc := 96) dX8_answerArrives_96 0 rfl ?_
      obtain ⟨V4, hV4⟩ : ∃ z, z = (C8_letGo V2 ) := ⟨_, rfl⟩
      refine j_callv cx (pc := 97) 0 (c_X8_letGo l D Y mo V2  (by rw [hV2]; (repeat first | rw [up1_in (by omega)] | rw [se_in (by omega)]); rw [hV1]; (repeat first | rw [up1_in (by omega)] | rw [se_in (by omega)]); exact hpd) (vp_mono cnV2 (by decide))) gX8_answerArrives_X8_letGo rfl (by decide +kernel) rfl ⟨Nat.le_of_ble_eq_true rfl, Nat.le_of_ble_eq_true rfl⟩ [0] rfl (by decide) (Bs' := [moB Y mo V4]) (by rw [hV4]; exact P1_mo V2 (C8_letGo V2 )) A1_mo 0 0 rfl rfl rfl rfl (Nat.le_of_ble_eq_true rfl) dX8_answerArrives_97 ⟨Nat.zero_le _, Nat.zero_le _⟩ ?_
      refine j_goto cx (pc := 100) (tgt := 134) dX8_answerArrives_100 (by decide) ?_
      subst hQ; exact j_vret cx hr (by subst hV4; subst hV2; subst hV1; simp only [C8_answerArrives, if_neg c9_1, if_pos c93_2]) hA dX8_answerArrives_134
  · skip
    refine j_aload_n cx (pc := 12) dX8_answerArrives_12 0 rfl ?_
    refine j_iload_n cx (pc := 13) dX8_answerArrives_13 1 rfl ?_
    refine j_iconst cx (pc := 14) (v := (nI 0)) dX8_answerArrives_14 (by decide) ?_
    refine j_iconst cx (pc := 15) (v := (nI 0)) dX8_answerArrives_15 (by decide) ?_
    obtain ⟨V5, hV5⟩ : ∃ z, z = (C8_setEnd V1 link 0 (nI 0)) := ⟨_, rfl⟩
    have cnV5 : vp_in (V5 1 10) 97 := by rw [hV5]; exact cn_setEnd cnV1
    refine j_callv cx (pc := 16) 3 (c_X8_setEnd l D Y mo V1 link 0 (nI 0) (by omega) (by omega)) gX8_answerArrives_X8_setEnd rfl (by decide +kernel) rfl ⟨Nat.le_of_ble_eq_true rfl, Nat.le_of_ble_eq_true rfl⟩ [0] rfl (by decide) (Bs' := [moB Y mo V5]) (by rw [hV5]; exact P1_mo V1 (C8_setEnd V1 link 0 (nI 0))) A1_mo 0 0 rfl rfl rfl rfl (Nat.le_of_ble_eq_true rfl) dX8_answerArrives_16 ⟨Nat.zero_le _, Nat.zero_le _⟩ ?_
    refine j_aload_n cx (pc := 19) dX8_answerArrives_19 0 rfl ?_
    refine j_iload_n cx (pc := 20) dX8_answerArrives_20 1 rfl ?_
    refine j_iconst cx (pc := 21) (v := (nI 0)) dX8_answerArrives_21 (by decide) ?_
    refine j_iconst cx (pc := 22) (v := (nI 0)) dX8_answerArrives_22 (by decide) ?_
    refine j_iconst cx (pc := 23) (v := (nI 0)) dX8_answerArrives_23 (by decide) ?_
    obtain ⟨V6, hV6⟩ : ∃ z, z = (C8_make V5 link 0 (nI 0) (nI 0)) := ⟨_, rfl⟩
    have cnV6 : vp_in (V6 1 10) 98 := by rw [hV6]; exact cn_make cnV5
    refine j_callv cx (pc := 24) 4 (c_X8_make l D Y mo V5 link 0 (nI 0) (nI 0) (by omega) (by omega) (vp_mono cnV5 (by decide))) gX8_answerArrives_X8_make rfl (by decide +kernel) rfl ⟨Nat.le_of_ble_eq_true rfl, Nat.le_of_ble_eq_true rfl⟩ [0] rfl (by decide) (Bs' := [moB Y mo V6]) (by rw [hV6]; exact P1_mo V5 (C8_make V5 link 0 (nI 0) (nI 0))) A1_mo 0 0 rfl rfl rfl rfl (Nat.le_of_ble_eq_true rfl) dX8_answerArrives_24 ⟨Nat.zero_le _, Nat.zero_le _⟩ ?_
    refine j_iload_n cx (pc := 27) dX8_answerArrives_27 1 rfl ?_
    refine j_ifN_le cx (pc := 28) (by omega) (tgt := 43) dX8_answerArrives_28 (by decide) (fun c28_4 => ?_) (fun c28_4 => ?_)
    · skip
      refine j_iload_n cx (pc := 43) dX8_answerArrives_43 1 rfl ?_
      refine j_ifN_le cx (pc := 44) (by omega) (tgt := 81) dX8_answerArrives_44 (by decide) (fun c44_5 => ?_) (fun c44_5 => by exfalso; first | omega | exact absurd c28_4 c44_5 | exact absurd c44_5 c28_4)
      subst hQ; exact j_vret cx hr (by subst hV6; subst hV5; subst hV1; simp only [C8_answerArrives, if_pos c9_1, if_pos c28_4]) hA dX8_answerArrives_81
    · skip
      refine j_aload_n cx (pc := 31) dX8_answerArrives_31 0 rfl ?_
      refine j_get cx (pc := 32) 0 0 rfl rfl (C := RX8) (T := TX8) (N := 12) rfl hinX8 0 (by decide) f7 rfl (v := .ref (mo 1)) rfl dX8_answerArrives_32 ?_
      refine j_bipush cx (pc := 35) (v := (nI 97)) dX8_answerArrives_35 (by decide) ?_
      refine j_iload_n cx (pc := 37) dX8_answerArrives_37 1 rfl ?_
      refine j_iaddN cx (pc := 38) dX8_answerArrives_38 ?_
      refine j_iconst cx (pc := 39) (v := (nI 1)) dX8_answerArrives_39 (by decide) ?_
      refine j_isubN cx (pc := 40) (by omega) dX8_answerArrives_40 ?_
      refine j_iconst cx (pc := 41) (v := (nI 0)) dX8_answerArrives_41 (by decide) ?_
      obtain ⟨V7, hV7⟩ : ∃ z, z = up1 V6 1 ((97 + link) - 1) (nI 0) := ⟨_, rfl⟩
      have cnV7 : vp_in (V7 1 10) 98 := by rw [hV7]; exact cn_up (by omega) cnV6
      refine j_iast cx (pc := 42) 0 1 0 rfl rfl rfl (by omega) (by decide) (Bs' := [moB Y mo V7]) (by rw [hV7]; rfl) dX8_answerArrives_42 ?_
      refine j_iload_n cx (pc := 43) dX8_answerArrives_43 1 rfl ?_
      refine j_ifN_le cx (pc := 44) (by omega) (tgt := 81) dX8_answerArrives_44 (by decide) (fun c44_6 => by exfalso; first | omega | exact absurd c28_4 c44_6 | exact absurd c44_6 c28_4) (fun c44_6 => ?_)
      refine j_aload_n cx (pc := 47) dX8_answerArrives_47 0 rfl ?_
      refine j_get cx (pc := 48) 0 0 rfl rfl (C := RX8) (T := TX8) (N := 12) rfl hinX8 0 (by decide) f7 rfl (v := .ref (mo 1)) rfl dX8_answerArrives_48 ?_
      refine j_bipush cx (pc := 51) (v := (nI 83)) dX8_answerArrives_51 (by decide) ?_
      refine j_iload_n cx (pc := 53) dX8_answerArrives_53 1 rfl ?_
      refine j_iaddN cx (pc := 54) dX8_answerArrives_54 ?_
      refine j_iconst cx (pc := 55) (v := (nI 1)) dX8_answerArrives_55 (by decide) ?_
      refine j_isubN cx (pc := 56) (by omega) dX8_answerArrives_56 ?_
      refine j_iald cx (pc := 57) 0 1 0 rfl rfl rfl (by omega) (by decide) dX8_answerArrives_57 ?_
      refine j_iconst cx (pc := 58) (v := (nI 1)) dX8_answerArrives_58 (by decide) ?_
      refine j_icmp_ne cx (pc := 59) (tgt := 81) dX8_answerArrives_59 (by decide) (fun c59_7 => ?_) (fun c59_7 => ?_)
      · skip
        subst hQ; exact j_vret cx hr (by subst hV7; subst hV6; subst hV5; subst hV1; simp only [C8_answerArrives, if_pos c9_1, if_neg (Nat.ne_of_gt c28_4), if_neg c59_7]) hA dX8_answerArrives_81
      · skip
        refine j_aload_n cx (pc := 62) dX8_answerArrives_62 0 rfl ?_
        refine j_get cx (pc := 63) 0 0 rfl rfl (C := RX8) (T := TX8) (N := 12) rfl hinX8 0 (by decide) f7 rfl (v := .ref (mo 1)) rfl dX8_answerArrives_63 ?_
        refine j_bipush cx (pc := 66) (v := (nI 83)) dX8_answerArrives_66 (by decide) ?_
        refine j_iload_n cx (pc := 68) dX8_answerArrives_68 1 rfl ?_
        refine j_iaddN cx (pc := 69) dX8_answerArrives_69 ?_
        refine j_iconst cx (pc := 70) (v := (nI 1)) dX8_answerArrives_70 (by decide) ?_
        refine j_isubN cx (pc := 71) (by omega) dX8_answerArrives_71 ?_
        refine j_iconst cx (pc := 72) (v := (nI 0)) dX8_answerArrives_72 (by decide) ?_
        obtain ⟨V8, hV8⟩ : ∃ z, z = up1 V7 1 ((83 + link) - 1) (nI 0) := ⟨_, rfl⟩
        have cnV8 : vp_in (V8 1 10) 98 := by rw [hV8]; exact cn_up (by omega) cnV7
        refine j_iast cx (pc := 73) 0 1 0 rfl rfl rfl (by omega) (by decide) (Bs' := [moB Y mo V8]) (by rw [hV8]; rfl) dX8_answerArrives_73 ?_
        refine j_aload_n cx (pc := 74) dX8_answerArrives_74 0 rfl ?_
        refine j_iload_n cx (pc := 75) dX8_answerArrives_75 1 rfl ?_
        refine j_iconst cx (pc := 76) (v := (nI 1)) dX8_answerArrives_76 (by decide) ?_
        refine j_isubN cx (pc := 77) (by omega) dX8_answerArrives_77 ?_
        obtain ⟨V9, hV9⟩ : ∃ z, z = (C8_take V8 (link - 1)) := ⟨_, rfl⟩
        have cnV9 : vp_in (V9 1 10) 101 := by rw [hV9]; exact cn_take cnV8
        refine j_callv cx (pc := 78) 1 (c_X8_take l D Y mo V8 (link - 1) (by omega) (vp_mono cnV8 (by decide))) gX8_answerArrives_X8_take rfl (by decide +kernel) rfl ⟨Nat.le_of_ble_eq_true rfl, Nat.le_of_ble_eq_true rfl⟩ [0] rfl (by decide) (Bs' := [moB Y mo V9]) (by rw [hV9]; exact P1_mo V8 (C8_take V8 (link - 1))) A1_mo 0 0 rfl rfl rfl rfl (Nat.le_of_ble_eq_true rfl) dX8_answerArrives_78 ⟨Nat.zero_le _, Nat.zero_le _⟩ ?_
        subst hQ; exact j_vret cx hr (by subst hV9; subst hV8; subst hV7; subst hV6; subst hV5; subst hV1; simp only [C8_answerArrives, if_pos c9_1, if_neg (Nat.ne_of_gt c28_4), if_pos c59_7]) hA dX8_answerArrives_81
def C8_whenOf (M : Nat → Nat → Int32) (change : Nat) : Int32 :=
  (M 1 ((319 + (4 * change)) + 0))
set_option maxHeartbeats 4000000 in
set_option maxRecDepth 100000 in
theorem c_X8_whenOf (l : Launch) (D : va_G) (Y : Nat → ClassId) (mo : Nat → Nat) (M : Nat → Nat → Int32) (change : Nat) (hc : change < 100) : CtI l yX8_whenOf wsX8_whenOf 0 0 D (tyL Y) ([moB Y mo M]) [.ref (mo 0), .int (nI change)] (C8_whenOf M change) ([moB Y mo M]) := by
  refine CtI.intro (own := RX8) (cc := cX8_whenOf) (maxL := 2) rfl (by decide +kernel) rfl (Nat.le_of_ble_eq_true rfl) (fun p e s m args below meth c A Q hA hQ cx hr => ?_)
  have hinX8 : ∀ w ∈ wsX80, w ∈ wsX8_whenOf := by decide +kernel
  have f7 : Cond.fieldLink RX8 7 "FourPhasesModel" "state" "[I" ∈ wsX8_whenOf := by decide +kernel
  refine j_aload_n cx (pc := 0) dX8_whenOf_0 0 rfl ?_
  refine j_get cx (pc := 1) 0 0 rfl rfl (C := RX8) (T := TX8) (N := 12) rfl hinX8 0 (by decide) f7 rfl (v := .ref (mo 1)) rfl dX8_whenOf_1 ?_
  refine j_sipush cx (pc := 4) (v := (nI 319)) dX8_whenOf_4 (by decide) ?_
  refine j_iconst cx (pc := 7) (v := (nI 4)) dX8_whenOf_7 (by decide) ?_
  refine j_iload_n cx (pc := 8) dX8_whenOf_8 1 rfl ?_
  refine j_imulN cx (pc := 9) dX8_whenOf_9 ?_
  refine j_iaddN cx (pc := 10) dX8_whenOf_10 ?_
  refine j_iconst cx (pc := 11) (v := (nI 0)) dX8_whenOf_11 (by decide) ?_
  refine j_iaddN cx (pc := 12) dX8_whenOf_12 ?_
  refine j_iald cx (pc := 13) 0 1 0 rfl rfl rfl (by omega) (by decide) dX8_whenOf_13 ?_
  subst hQ; exact j_iret cx hr (by rfl) rfl hA dX8_whenOf_14
theorem nI_ne5 {n : Nat} (h : n < 2 ^ 31) : ¬ nI n = (-5) := by
  intro e
  have h1 := congrArg Int32.toInt e
  rw [nI_toInt h] at h1
  have h2 : ((-5 : Int32)).toInt = -5 := by decide
  rw [h2] at h1
  omega
def L8_nextChange (M : Nat → Nat → Int32)  : Nat → Nat → Nat → Int32
  | 0, k, j =>
      (nI j)
  | q + 1, k, j =>
      if (tN (M 1 10)) ≤ k then
        (nI j)
      else
        if (C8_whenOf M j) ≤ (C8_whenOf M k) then
          L8_nextChange M q (k + 1) j
        else
          L8_nextChange M q (k + 1) k
def C8_nextChange (M : Nat → Nat → Int32)  : Int32 :=
  if (tN (M 1 10)) ≤ 0 then
    (-5)
  else
    L8_nextChange M (99) 1 0
set_option maxHeartbeats 4000000 in
set_option maxRecDepth 100000 in
theorem c_X8_nextChange (l : Launch) (D : va_G) (Y : Nat → ClassId) (mo : Nat → Nat) (M : Nat → Nat → Int32)  (hn : vp_in (M 1 10) 100) : CtI l yX8_nextChange wsX8_nextChange 1 21 D (tyL Y) ([moB Y mo M]) [.ref (mo 0)] (C8_nextChange M ) ([moB Y mo M]) := by
  refine CtI.intro (own := RX8) (cc := cX8_nextChange) (maxL := 3) rfl (by decide +kernel) rfl (Nat.le_of_ble_eq_true rfl) (fun p e s m args below meth c A Q hA hQ cx hr => ?_)
  have hinX8 : ∀ w ∈ wsX80, w ∈ wsX8_nextChange := by decide +kernel
  have f7 : Cond.fieldLink RX8 7 "FourPhasesModel" "state" "[I" ∈ wsX8_nextChange := by decide +kernel
  have hl100 : tN (M 1 10) < 100 := inL hn
  have loop : ∀ (q : Nat) (k : Nat) (j : Nat), (k + q = 100) → (j < k) → L8_nextChange M q k j = C8_nextChange M  → J p l e { frames := 1, cells := 0, slots := 0, locals := 21 } s m args below meth c 3 D A 0 0 Q ([moB Y mo M]) 5 [(2, .int (nI k)), (1, .int (nI j)), (0, .ref (mo 0))] [] := by
    intro q
    induction q with
    | zero =>
      intro k j hq hj hS
      refine j_iload_n cx (pc := 5) dX8_nextChange_5 0 rfl ?_
      refine j_aload_n cx (pc := 6) dX8_nextChange_6 2 rfl ?_
      refine j_get cx (pc := 7) 0 0 rfl rfl (C := RX8) (T := TX8) (N := 12) rfl hinX8 0 (by decide) f7 rfl (v := .ref (mo 1)) rfl dX8_nextChange_7 ?_
      refine j_bipush cx (pc := 10) (v := (nI 10)) dX8_nextChange_10 (by decide) ?_
      refine j_iald cx (pc := 12) 0 1 0 rfl rfl rfl (by decide) (by decide) dX8_nextChange_12 ?_
      refine j_top (show (M 1 10) = (nI (tN (M 1 10))) from inN hn) ?_
      refine j_icmpN_ge cx (pc := 13) (by omega) (by omega) (tgt := 47) dX8_nextChange_13 (by decide) (fun c13_1 => ?_) (fun c13_1 => by exfalso; omega)
      refine j_iload_n cx (pc := 47) dX8_nextChange_47 1 rfl ?_
      subst hQ; exact j_iret cx hr (by rw [← hS]; simp only [L8_nextChange]) rfl hA dX8_nextChange_48
    | succ q ih =>
      intro k j hq hj hS
      refine j_iload_n cx (pc := 5) dX8_nextChange_5 0 rfl ?_
      refine j_aload_n cx (pc := 6) dX8_nextChange_6 2 rfl ?_
      refine j_get cx (pc := 7) 0 0 rfl rfl (C := RX8) (T := TX8) (N := 12) rfl hinX8 0 (by decide) f7 rfl (v := .ref (mo 1)) rfl dX8_nextChange_7 ?_
      refine j_bipush cx (pc := 10) (v := (nI 10)) dX8_nextChange_10 (by decide) ?_
      refine j_iald cx (pc := 12) 0 1 0 rfl rfl rfl (by decide) (by decide) dX8_nextChange_12 ?_
      refine j_top (show (M 1 10) = (nI (tN (M 1 10))) from inN hn) ?_
      refine j_icmpN_ge cx (pc := 13) (by omega) (by omega) (tgt := 47) dX8_nextChange_13 (by decide) (fun c13_1 => ?_) (fun c13_1 => ?_)
      · skip
        refine j_iload_n cx (pc := 47) dX8_nextChange_47 1 rfl ?_
        subst hQ; exact j_iret cx hr (by rw [← hS]; simp only [L8_nextChange, if_pos c13_1]) rfl hA dX8_nextChange_48
      · skip
        refine j_iload_n cx (pc := 16) dX8_nextChange_16 1 rfl ?_
        refine j_bipush cx (pc := 17) (v := (-5)) dX8_nextChange_17 (by decide) ?_
        refine j_icmp_eq cx (pc := 19) (tgt := 35) dX8_nextChange_19 (by decide) (fun c19_2 => by exfalso; exact nI_ne5 (by omega) c19_2) (fun c19_2 => ?_)
        refine j_aload_n cx (pc := 22) dX8_nextChange_22 2 rfl ?_
        refine j_iload_n cx (pc := 23) dX8_nextChange_23 0 rfl ?_
        refine j_calli cx (pc := 24) 1 (c_X8_whenOf l D Y mo M k (by omega)) gX8_nextChange_X8_whenOf rfl (by decide +kernel) rfl ⟨Nat.le_of_ble_eq_true rfl, Nat.le_of_ble_eq_true rfl⟩ [0] rfl (by decide) (Bs' := [moB Y mo M]) rfl rfl 0 0 rfl rfl rfl rfl (Nat.le_of_ble_eq_true rfl) dX8_nextChange_24 ⟨Nat.zero_le _, Nat.zero_le _⟩ ?_
        refine j_aload_n cx (pc := 27) dX8_nextChange_27 2 rfl ?_
        refine j_iload_n cx (pc := 28) dX8_nextChange_28 1 rfl ?_
        refine j_calli cx (pc := 29) 1 (c_X8_whenOf l D Y mo M j (by omega)) gX8_nextChange_X8_whenOf rfl (by decide +kernel) rfl ⟨Nat.le_of_ble_eq_true rfl, Nat.le_of_ble_eq_true rfl⟩ [0] rfl (by decide) (Bs' := [moB Y mo M]) rfl rfl 0 0 rfl rfl rfl rfl (Nat.le_of_ble_eq_true rfl) dX8_nextChange_29 ⟨Nat.zero_le _, Nat.zero_le _⟩ ?_
        refine j_icmp_ge cx (pc := 32) (tgt := 39) dX8_nextChange_32 (by decide) (fun c32_3 => ?_) (fun c32_3 => ?_)
        · skip
          refine j_iload_n cx (pc := 39) dX8_nextChange_39 1 rfl ?_
          refine j_istore_n cx (pc := 40) (lv' := [(1, .int (nI j)), (2, .int (nI k)), (0, .ref (mo 0))]) dX8_nextChange_40 (by decide) rfl ?_
          refine j_iinc cx (pc := 41) (v := (nI (k + 1))) (lv' := [(2, .int (nI (k + 1))), (1, .int (nI j)), (0, .ref (mo 0))]) dX8_nextChange_41 1 rfl (show nI k + nI 1 = nI (k + 1) from nI_add _ _) (by decide) rfl ?_
          refine j_goto cx (pc := 44) (tgt := 5) dX8_nextChange_44 (by decide) ?_
          refine j_lvm (lv' := [(2, .int (nI (k + 1))), (1, .int (nI j)), (0, .ref (mo 0))]) (by intro z hz; simp only [List.mem_cons, List.not_mem_nil, or_false] at hz ⊢; rcases hz with rfl | rfl | rfl <;> simp) ?_
          exact ih (k + 1) j (by omega) (by omega) (by rw [← hS]; simp only [L8_nextChange, if_neg (Nat.not_le.mpr c13_1), if_pos c32_3])
        · skip
          refine j_iload_n cx (pc := 35) dX8_nextChange_35 0 rfl ?_
          refine j_goto cx (pc := 36) (tgt := 40) dX8_nextChange_36 (by decide) ?_
          refine j_istore_n cx (pc := 40) (lv' := [(1, .int (nI k)), (2, .int (nI k)), (0, .ref (mo 0))]) dX8_nextChange_40 (by decide) rfl ?_
          refine j_iinc cx (pc := 41) (v := (nI (k + 1))) (lv' := [(2, .int (nI (k + 1))), (1, .int (nI k)), (0, .ref (mo 0))]) dX8_nextChange_41 1 rfl (show nI k + nI 1 = nI (k + 1) from nI_add _ _) (by decide) rfl ?_
          refine j_goto cx (pc := 44) (tgt := 5) dX8_nextChange_44 (by decide) ?_
          refine j_lvm (lv' := [(2, .int (nI (k + 1))), (1, .int (nI k)), (0, .ref (mo 0))]) (by intro z hz; simp only [List.mem_cons, List.not_mem_nil, or_false] at hz ⊢; rcases hz with rfl | rfl | rfl <;> simp) ?_
          exact ih (k + 1) k (by omega) (by omega) (by rw [← hS]; simp only [L8_nextChange, if_neg (Nat.not_le.mpr c13_1), if_neg c32_3])
  refine j_bipush cx (pc := 0) (v := (-5)) dX8_nextChange_0 (by decide) ?_
  refine j_istore_n cx (pc := 2) (lv' := [(1, .int (-5)), (0, .ref (mo 0))]) dX8_nextChange_2 (by decide) rfl ?_
  refine j_iconst cx (pc := 3) (v := (nI 0)) dX8_nextChange_3 (by decide) ?_
  refine j_istore_n cx (pc := 4) (lv' := [(2, .int (nI 0)), (1, .int (-5)), (0, .ref (mo 0))]) dX8_nextChange_4 (by decide) rfl ?_
  refine j_iload_n cx (pc := 5) dX8_nextChange_5 0 rfl ?_
  refine j_aload_n cx (pc := 6) dX8_nextChange_6 2 rfl ?_
  refine j_get cx (pc := 7) 0 0 rfl rfl (C := RX8) (T := TX8) (N := 12) rfl hinX8 0 (by decide) f7 rfl (v := .ref (mo 1)) rfl dX8_nextChange_7 ?_
  refine j_bipush cx (pc := 10) (v := (nI 10)) dX8_nextChange_10 (by decide) ?_
  refine j_iald cx (pc := 12) 0 1 0 rfl rfl rfl (by decide) (by decide) dX8_nextChange_12 ?_
  refine j_top (show (M 1 10) = (nI (tN (M 1 10))) from inN hn) ?_
  refine j_icmpN_ge cx (pc := 13) (by decide) (by omega) (tgt := 47) dX8_nextChange_13 (by decide) (fun c13_1 => ?_) (fun c13_1 => ?_)
  · skip
    refine j_iload_n cx (pc := 47) dX8_nextChange_47 1 rfl ?_
    subst hQ; exact j_iret cx hr (by simp only [C8_nextChange, if_pos c13_1]) rfl hA dX8_nextChange_48
  · skip
    refine j_iload_n cx (pc := 16) dX8_nextChange_16 1 rfl ?_
    refine j_bipush cx (pc := 17) (v := (-5)) dX8_nextChange_17 (by decide) ?_
    refine j_icmp_eq cx (pc := 19) (tgt := 35) dX8_nextChange_19 (by decide) (fun c19_2 => ?_) (fun c19_2 => by exfalso; exact c19_2 rfl)
    refine j_iload_n cx (pc := 35) dX8_nextChange_35 0 rfl ?_
    refine j_goto cx (pc := 36) (tgt := 40) dX8_nextChange_36 (by decide) ?_
    refine j_istore_n cx (pc := 40) (lv' := [(1, .int (nI 0)), (2, .int (nI 0)), (0, .ref (mo 0))]) dX8_nextChange_40 (by decide) rfl ?_
    refine j_iinc cx (pc := 41) (v := (nI 1)) (lv' := [(2, .int (nI 1)), (1, .int (nI 0)), (0, .ref (mo 0))]) dX8_nextChange_41 1 rfl rfl (by decide) rfl ?_
    refine j_goto cx (pc := 44) (tgt := 5) dX8_nextChange_44 (by decide) ?_
    refine j_lvm (lv' := [(2, .int (nI 1)), (1, .int (nI 0)), (0, .ref (mo 0))]) (by intro z hz; simp only [List.mem_cons, List.not_mem_nil, or_false] at hz ⊢; rcases hz with rfl | rfl | rfl <;> simp) ?_
    exact loop (99) 1 0 rfl (Nat.lt_succ_self 0) (by simp only [C8_nextChange, if_neg (Nat.not_le.mpr c13_1)])
