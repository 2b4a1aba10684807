theorem cn_take {M : Nat → Nat → Int32} {k n : Nat} (hn : vp_in (M 1 10) n) (h : n < 900 := by decide) : vp_in (C8_take M k 1 10) (n + 3) := by
  have h1 := cn_answer (k := k) (x := nI 1) (y := nI 0) (cn_up (i := 103 + k) (x := C8_end (up1 M 1 (97 + k) (nI 1)) k 5) (by omega) (cn_up (i := 97 + k) (x := nI 1) (by omega) hn)) (show n < 1000 by omega)
  unfold C8_take
  split
  · exact cn_offer h1 (show n + 1 < 1000 by omega)
  · exact vp_mono h1 (by omega)
theorem e_setC {V : Nat → Nat → Int32} {c j n : Nat} {g : Nat → Int32} (h : g j = V c j) (hn : vp_in (V c j) n) : vp_in (setC V c g c j) n := by rw [setC_eq, h]; exact hn
def C8_note (M : Nat → Nat → Int32)  : Nat → Nat → Int32 :=
  if (C8_end M (tN (M 1 3)) 5) = (M 1 149) then
    let V14 := setC M 1 (shl (M 1) 149 19)
    let V15 := up1 V14 1 9 ((V14 1 9) - (nI 1))
    let V16 := setC V15 1 (sh3 (V15 1) 2)
    let V17 := up1 V16 1 169 (C8_end M (tN (M 1 3)) 5)
    let V18 := up1 V17 1 170 (V17 1 4)
    let V19 := up1 V18 1 171 (nI 1)
    let V20 := up1 V19 1 5 ((V19 1 5) + (nI 1))
    let V21 := up1 V20 1 6 ((V20 1 6) + (nI 1))
    let V22 := (C8_answer V21 (tN (M 1 3)) (nI 1) (V21 1 1))
    V22
  else
    let V1 := setC M 1 (shl (M 1) 149 19)
    let V2 := up1 V1 1 9 ((V1 1 9) - (nI 1))
    let V3 := setC V2 1 (sh3 (V2 1) 2)
    let V4 := up1 V3 1 169 (C8_end M (tN (M 1 3)) 5)
    let V5 := up1 V4 1 170 (V4 1 4)
    let V6 := up1 V5 1 171 (nI 0)
    let V7 := up1 V6 1 5 ((V6 1 5) + (nI 1))
    let V8 := up1 V7 1 6 ((V7 1 6) + (nI 0))
    let V9 := (C8_answer V8 (tN (M 1 3)) (nI 1) (V8 1 1))
    V9
set_option maxHeartbeats 4000000 in
set_option maxRecDepth 100000 in
theorem c_X8_note (l : Launch) (D : va_G) (Y : Nat → ClassId) (mo : Nat → Nat) (M : Nat → Nat → Int32)  (hst : vp_in (M 1 3) 7) (hn : vp_in (M 1 10) 100) : CtV l yX8_note wsX8_note 2 48 D (tyL Y) ([moB Y mo M]) [.ref (mo 0)] ([moB Y mo (C8_note M )]) := by
  refine CtV.intro (own := RX8) (cc := cX8_note) (maxL := 4) rfl (by decide +kernel) rfl (Nat.le_of_ble_eq_true rfl) (fun p e s m args below meth c A Q hA hQ cx hr => ?_)
  have hinX8 : ∀ w ∈ wsX80, w ∈ wsX8_note := by decide +kernel
  have f7 : Cond.fieldLink RX8 7 "FourPhasesModel" "state" "[I" ∈ wsX8_note := by decide +kernel
  have hst7 : tN (M 1 3) < 7 := inL hst
  refine j_aload_n cx (pc := 0) dX8_note_0 0 rfl ?_
  refine j_aload_n cx (pc := 1) dX8_note_1 0 rfl ?_
  refine j_get cx (pc := 2) 0 0 rfl rfl (C := RX8) (T := TX8) (N := 12) rfl hinX8 0 (by decide) f7 rfl (v := .ref (mo 1)) rfl dX8_note_2 ?_
  refine j_iconst cx (pc := 5) (v := (nI 3)) dX8_note_5 (by decide) ?_
  refine j_iald cx (pc := 6) 0 1 0 rfl rfl rfl (by decide) (by decide) dX8_note_6 ?_
  refine j_top (show (M 1 3) = (nI (tN (M 1 3))) from inN hst) ?_
  refine j_iconst cx (pc := 7) (v := (nI 5)) dX8_note_7 (by decide) ?_
  refine j_calli cx (pc := 8) 2 (c_X8_end l D Y mo M (tN (M 1 3)) 5 (by omega) (by omega)) gX8_note_X8_end rfl (by decide +kernel) rfl ⟨Nat.le_of_ble_eq_true rfl, Nat.le_of_ble_eq_true rfl⟩ [0] rfl (by decide) (Bs' := [moB Y mo M]) rfl rfl 0 0 rfl rfl rfl rfl (Nat.le_of_ble_eq_true rfl) dX8_note_8 ⟨Nat.zero_le _, Nat.zero_le _⟩ ?_
  refine j_istore_n cx (pc := 11) (lv' := [(1, .int (C8_end M (tN (M 1 3)) 5)), (0, .ref (mo 0))]) dX8_note_11 (by decide) rfl ?_
  refine j_iload_n cx (pc := 12) dX8_note_12 0 rfl ?_
  refine j_aload_n cx (pc := 13) dX8_note_13 1 rfl ?_
  refine j_get cx (pc := 14) 0 0 rfl rfl (C := RX8) (T := TX8) (N := 12) rfl hinX8 0 (by decide) f7 rfl (v := .ref (mo 1)) rfl dX8_note_14 ?_
  refine j_sipush cx (pc := 17) (v := (nI 149)) dX8_note_17 (by decide) ?_
  refine j_iald cx (pc := 20) 0 1 0 rfl rfl rfl (by decide) (by decide) dX8_note_20 ?_
  refine j_icmp_ne cx (pc := 21) (tgt := 28) dX8_note_21 (by decide) (fun c21_1 => ?_) (fun c21_1 => ?_)
  · skip
    refine j_iconst cx (pc := 28) (v := (nI 0)) dX8_note_28 (by decide) ?_
    refine j_istore_n cx (pc := 29) (lv' := [(2, .int (nI 0)), (1, .int (C8_end M (tN (M 1 3)) 5)), (0, .ref (mo 0))]) dX8_note_29 (by decide) rfl ?_
    refine j_iconst cx (pc := 30) (v := (nI 0)) dX8_note_30 (by decide) ?_
    refine j_istore_n cx (pc := 31) (lv' := [(3, .int (nI 0)), (2, .int (nI 0)), (1, .int (C8_end M (tN (M 1 3)) 5)), (0, .ref (mo 0))]) dX8_note_31 (by decide) rfl ?_
    have lp2 : ∀ (n i : Nat), i + n = 19 → 0 ≤ i → J p l e { frames := 2, cells := 0, slots := 0, locals := 48 } s m args below meth c 4 D A 0 0 Q ([moB Y mo (setC M 1 (shl (M 1) 149 i))]) 32 [(3, .int (nI i)), (2, .int (nI 0)), (1, .int (C8_end M (tN (M 1 3)) 5)), (0, .ref (mo 0))] [] := by
      intro n
      induction n with
      | zero =>
        intro i hi h0
        have hi2 : i = 19 := by omega
        subst hi2
        obtain ⟨V1, hV1⟩ : ∃ z, z = setC M 1 (shl (M 1) 149 19) := ⟨_, rfl⟩
        have cnV1 : vp_in (V1 1 10) 100 := by rw [hV1]; exact e_setC (by show (if _ then _ else _) = _; exact if_neg (by omega)) hn
        refine j_bs (Bs' := [moB Y mo V1]) (by rw [hV1]) ?_
        refine j_iload_n cx (pc := 32) dX8_note_32 0 rfl ?_
        refine j_bipush cx (pc := 33) (v := (nI 19)) dX8_note_33 (by decide) ?_
        refine j_icmpN_ge cx (pc := 35) (by decide) (by decide) (tgt := 66) dX8_note_35 (by decide) (fun c35_3 => ?_) (fun c35_3 => by exfalso; revert c35_3; decide)
        refine j_aload_n cx (pc := 66) dX8_note_66 3 rfl ?_
        refine j_get cx (pc := 67) 0 0 rfl rfl (C := RX8) (T := TX8) (N := 12) rfl hinX8 0 (by decide) f7 rfl (v := .ref (mo 1)) rfl dX8_note_67 ?_
        refine j_bipush cx (pc := 70) (v := (nI 9)) dX8_note_70 (by decide) ?_
        refine j_dup2 cx (pc := 72) dX8_note_72 rfl rfl ?_
        refine j_iald cx (pc := 73) 0 1 0 rfl rfl rfl (by decide) (by decide) dX8_note_73 ?_
        refine j_iconst cx (pc := 74) (v := (nI 1)) dX8_note_74 (by decide) ?_
        refine j_isub cx (pc := 75) dX8_note_75 ?_
        obtain ⟨V2, hV2⟩ : ∃ z, z = up1 V1 1 9 ((V1 1 9) - (nI 1)) := ⟨_, rfl⟩
        have cnV2 : vp_in (V2 1 10) 100 := by rw [hV2]; exact cn_up (by omega) cnV1
        refine j_iast cx (pc := 76) 0 1 0 rfl rfl rfl (by decide) (by decide) (Bs' := [moB Y mo V2]) (by rw [hV2]; rfl) dX8_note_76 ?_
        refine j_sipush cx (pc := 77) (v := (nI 149)) dX8_note_77 (by decide) ?_
        refine j_istore_n cx (pc := 80) (lv' := [(3, .int (nI 149)), (2, .int (nI 0)), (1, .int (C8_end M (tN (M 1 3)) 5)), (0, .ref (mo 0))]) dX8_note_80 (by decide) rfl ?_
        have lp4 : ∀ (n : Nat), n + 2 ≤ 149 → J p l e { frames := 2, cells := 0, slots := 0, locals := 48 } s m args below meth c 4 D A 0 0 Q ([moB Y mo (setC V2 1 (sh3 (V2 1) (n + 2)))]) 81 [(3, .int (nI (n + 2))), (2, .int (nI 0)), (1, .int (C8_end M (tN (M 1 3)) 5)), (0, .ref (mo 0))] [] := by
          intro n
          induction n with
          | zero =>
            intro h0
            obtain ⟨V3, hV3⟩ : ∃ z, z = setC V2 1 (sh3 (V2 1) 2) := ⟨_, rfl⟩
            have cnV3 : vp_in (V3 1 10) 100 := by rw [hV3]; exact e_setC (by show (if _ then _ else _) = _; exact if_neg (by omega)) cnV2
            refine j_bs (Bs' := [moB Y mo V3]) (by rw [hV3]) ?_
            refine j_lvm (lv' := [(3, .int (nI 2)), (2, .int (nI 0)), (1, .int (C8_end M (tN (M 1 3)) 5)), (0, .ref (mo 0))]) (by intro z hz; simpa using hz) ?_
            refine j_iload_n cx (pc := 81) dX8_note_81 0 rfl ?_
            refine j_iconst cx (pc := 82) (v := (nI 2)) dX8_note_82 (by decide) ?_
            refine j_icmpN_le cx (pc := 83) (by decide) (by decide) (tgt := 114) dX8_note_83 (by decide) (fun c83_5 => ?_) (fun c83_5 => by exfalso; revert c83_5; decide)
            refine j_aload_n cx (pc := 114) dX8_note_114 3 rfl ?_
            refine j_get cx (pc := 115) 0 0 rfl rfl (C := RX8) (T := TX8) (N := 12) rfl hinX8 0 (by decide) f7 rfl (v := .ref (mo 1)) rfl dX8_note_115 ?_
            refine j_sipush cx (pc := 118) (v := (nI 169)) dX8_note_118 (by decide) ?_
            refine j_iload_n cx (pc := 121) dX8_note_121 2 rfl ?_
            obtain ⟨V4, hV4⟩ : ∃ z, z = up1 V3 1 169 (C8_end M (tN (M 1 3)) 5) := ⟨_, rfl⟩
            have cnV4 : vp_in (V4 1 10) 100 := by rw [hV4]; exact cn_up (by omega) cnV3
            refine j_iast cx (pc := 122) 0 1 0 rfl rfl rfl (by decide) (by decide) (Bs' := [moB Y mo V4]) (by rw [hV4]; rfl) dX8_note_122 ?_
            refine j_aload_n cx (pc := 123) dX8_note_123 3 rfl ?_
            refine j_get cx (pc := 124) 0 0 rfl rfl (C := RX8) (T := TX8) (N := 12) rfl hinX8 0 (by decide) f7 rfl (v := .ref (mo 1)) rfl dX8_note_124 ?_
            refine j_sipush cx (pc := 127) (v := (nI 170)) dX8_note_127 (by decide) ?_
            refine j_aload_n cx (pc := 130) dX8_note_130 3 rfl ?_
            refine j_get cx (pc := 131) 0 0 rfl rfl (C := RX8) (T := TX8) (N := 12) rfl hinX8 0 (by decide) f7 rfl (v := .ref (mo 1)) rfl dX8_note_131 ?_
            refine j_iconst cx (pc := 134) (v := (nI 4)) dX8_note_134 (by decide) ?_
            refine j_iald cx (pc := 135) 0 1 0 rfl rfl rfl (by decide) (by decide) dX8_note_135 ?_
            obtain ⟨V5, hV5⟩ : ∃ z, z = up1 V4 1 170 (V4 1 4) := ⟨_, rfl⟩
            have cnV5 : vp_in (V5 1 10) 100 := by rw [hV5]; exact cn_up (by omega) cnV4
            refine j_iast cx (pc := 136) 0 1 0 rfl rfl rfl (by decide) (by decide) (Bs' := [moB Y mo V5]) (by rw [hV5]; rfl) dX8_note_136 ?_
            refine j_aload_n cx (pc := 137) dX8_note_137 3 rfl ?_
            refine j_get cx (pc := 138) 0 0 rfl rfl (C := RX8) (T := TX8) (N := 12) rfl hinX8 0 (by decide) f7 rfl (v := .ref (mo 1)) rfl dX8_note_138 ?_
            refine j_sipush cx (pc := 141) (v := (nI 171)) dX8_note_141 (by decide) ?_
            refine j_iload_n cx (pc := 144) dX8_note_144 1 rfl ?_
            obtain ⟨V6, hV6⟩ : ∃ z, z = up1 V5 1 171 (nI 0) := ⟨_, rfl⟩
            have cnV6 : vp_in (V6 1 10) 100 := by rw [hV6]; exact cn_up (by omega) cnV5
            refine j_iast cx (pc := 145) 0 1 0 rfl rfl rfl (by decide) (by decide) (Bs' := [moB Y mo V6]) (by rw [hV6]; rfl) dX8_note_145 ?_
            refine j_aload_n cx (pc := 146) dX8_note_146 3 rfl ?_
            refine j_get cx (pc := 147) 0 0 rfl rfl (C := RX8) (T := TX8) (N := 12) rfl hinX8 0 (by decide) f7 rfl (v := .ref (mo 1)) rfl dX8_note_147 ?_
            refine j_iconst cx (pc := 150) (v := (nI 5)) dX8_note_150 (by decide) ?_
            refine j_dup2 cx (pc := 151) dX8_note_151 rfl rfl ?_
            refine j_iald cx (pc := 152) 0 1 0 rfl rfl rfl (by decide) (by decide) dX8_note_152 ?_
            refine j_iconst cx (pc := 153) (v := (nI 1)) dX8_note_153 (by decide) ?_
            refine j_iadd cx (pc := 154) dX8_note_154 ?_
            obtain ⟨V7, hV7⟩ : ∃ z, z = up1 V6 1 5 ((V6 1 5) + (nI 1)) := ⟨_, rfl⟩
            have cnV7 : vp_in (V7 1 10) 100 := by rw [hV7]; exact cn_up (by omega) cnV6
            refine j_iast cx (pc := 155) 0 1 0 rfl rfl rfl (by decide) (by decide) (Bs' := [moB Y mo V7]) (by rw [hV7]; rfl) dX8_note_155 ?_
            refine j_aload_n cx (pc := 156) dX8_note_156 3 rfl ?_
            refine j_get cx (pc := 157) 0 0 rfl rfl (C := RX8) (T := TX8) (N := 12) rfl hinX8 0 (by decide) f7 rfl (v := .ref (mo 1)) rfl dX8_note_157 ?_
            refine j_bipush cx (pc := 160) (v := (nI 6)) dX8_note_160 (by decide) ?_
            refine j_dup2 cx (pc := 162) dX8_note_162 rfl rfl ?_
            refine j_iald cx (pc := 163) 0 1 0 rfl rfl rfl (by decide) (by decide) dX8_note_163 ?_
            refine j_iload_n cx (pc := 164) dX8_note_164 1 rfl ?_
            refine j_iadd cx (pc := 165) dX8_note_165 ?_
            obtain ⟨V8, hV8⟩ : ∃ z, z = up1 V7 1 6 ((V7 1 6) + (nI 0)) := ⟨_, rfl⟩
            have cnV8 : vp_in (V8 1 10) 100 := by rw [hV8]; exact cn_up (by omega) cnV7
            refine j_iast cx (pc := 166) 0 1 0 rfl rfl rfl (by decide) (by decide) (Bs' := [moB Y mo V8]) (by rw [hV8]; rfl) dX8_note_166 ?_
            refine j_aload_n cx (pc := 167) dX8_note_167 3 rfl ?_
            refine j_aload_n cx (pc := 168) dX8_note_168 3 rfl ?_
            refine j_get cx (pc := 169) 0 0 rfl rfl (C := RX8) (T := TX8) (N := 12) rfl hinX8 0 (by decide) f7 rfl (v := .ref (mo 1)) rfl dX8_note_169 ?_
            refine j_iconst cx (pc := 172) (v := (nI 3)) dX8_note_172 (by decide) ?_
            refine j_iald cx (pc := 173) 0 1 0 rfl rfl rfl (by decide) (by decide) dX8_note_173 ?_
            have e3 : V8 1 3 = nI (tN (M 1 3)) := by subst_vars; exact inN hst
            refine j_top (show (V8 1 3) = (nI (tN (M 1 3))) from e3) ?_
            refine j_iconst cx (pc := 174) (v := (nI 1)) dX8_note_174 (by decide) ?_
            refine j_aload_n cx (pc := 175) dX8_note_175 3 rfl ?_
            refine j_get cx (pc := 176) 0 0 rfl rfl (C := RX8) (T := TX8) (N := 12) rfl hinX8 0 (by decide) f7 rfl (v := .ref (mo 1)) rfl dX8_note_176 ?_
            refine j_iconst cx (pc := 179) (v := (nI 1)) dX8_note_179 (by decide) ?_
            refine j_iald cx (pc := 180) 0 1 0 rfl rfl rfl (by decide) (by decide) dX8_note_180 ?_
            obtain ⟨V9, hV9⟩ : ∃ z, z = (C8_answer V8 (tN (M 1 3)) (nI 1) (V8 1 1)) := ⟨_, rfl⟩
            have cnV9 : vp_in (V9 1 10) 101 := by rw [hV9]; exact cn_answer cnV8
            refine j_callv cx (pc := 181) 3 (c_X8_answer l D Y mo V8 (tN (M 1 3)) (nI 1) (V8 1 1) (by omega) (vp_mono cnV8 (by decide))) gX8_note_X8_answer rfl (by decide +kernel) rfl ⟨Nat.le_of_ble_eq_true rfl, Nat.le_of_ble_eq_true rfl⟩ [0] rfl (by decide) (Bs' := [moB Y mo V9]) (by rw [hV9]; exact P1_mo V8 (C8_answer V8 (tN (M 1 3)) (nI 1) (V8 1 1))) A1_mo 0 0 rfl rfl rfl rfl (Nat.le_of_ble_eq_true rfl) dX8_note_181 ⟨Nat.zero_le _, Nat.zero_le _⟩ ?_
            subst hQ; exact j_vret cx hr (by subst hV9; subst hV8; subst hV7; subst hV6; subst hV5; subst hV4; subst hV3; subst hV2; subst hV1; simp only [C8_note, if_neg c21_1]) hA dX8_note_184
          | succ n ih =>
            intro h0
            obtain ⟨V10, hV10⟩ : ∃ z, z = setC V2 1 (sh3 (V2 1) ((n + 2) + 1)) := ⟨_, rfl⟩
            refine j_bs (Bs' := [moB Y mo V10]) (by rw [hV10]) ?_
            refine j_lvm (lv' := [(3, .int (nI ((n + 2) + 1))), (2, .int (nI 0)), (1, .int (C8_end M (tN (M 1 3)) 5)), (0, .ref (mo 0))]) (fun z hz => hz) ?_
            refine j_iload_n cx (pc := 81) dX8_note_81 0 rfl ?_
            refine j_iconst cx (pc := 82) (v := (nI 2)) dX8_note_82 (by decide) ?_
            refine j_icmpN_le cx (pc := 83) (by omega) (by decide) (tgt := 114) dX8_note_83 (by decide) (fun c83_6 => by exfalso; omega) (fun c83_6 => ?_)
            refine j_aload_n cx (pc := 86) dX8_note_86 3 rfl ?_
            refine j_get cx (pc := 87) 0 0 rfl rfl (C := RX8) (T := TX8) (N := 12) rfl hinX8 0 (by decide) f7 rfl (v := .ref (mo 1)) rfl dX8_note_87 ?_
            refine j_sipush cx (pc := 90) (v := (nI 169)) dX8_note_90 (by decide) ?_
            refine j_iload_n cx (pc := 93) dX8_note_93 0 rfl ?_
            refine j_iaddN cx (pc := 94) dX8_note_94 ?_
            refine j_aload_n cx (pc := 95) dX8_note_95 3 rfl ?_
            refine j_get cx (pc := 96) 0 0 rfl rfl (C := RX8) (T := TX8) (N := 12) rfl hinX8 0 (by decide) f7 rfl (v := .ref (mo 1)) rfl dX8_note_96 ?_
            refine j_sipush cx (pc := 99) (v := (nI 169)) dX8_note_99 (by decide) ?_
            refine j_iload_n cx (pc := 102) dX8_note_102 0 rfl ?_
            refine j_iaddN cx (pc := 103) dX8_note_103 ?_
            refine j_iconst cx (pc := 104) (v := (nI 3)) dX8_note_104 (by decide) ?_
            refine j_isubN cx (pc := 105) (by omega) dX8_note_105 ?_
            refine j_iald cx (pc := 106) 0 1 0 rfl rfl rfl (by omega) (by decide) dX8_note_106 ?_
            obtain ⟨V11, hV11⟩ : ∃ z, z = up1 V10 1 (169 + ((n + 2) + 1)) (V10 1 ((169 + ((n + 2) + 1)) - 3)) := ⟨_, rfl⟩
            refine j_iast cx (pc := 107) 0 1 0 rfl rfl rfl (by omega) (by decide) (Bs' := [moB Y mo V11]) (by rw [hV11]; rfl) dX8_note_107 ?_
            refine j_iinc cx (pc := 108) (v := (nI (n + 2))) (lv' := [(3, .int (nI (n + 2))), (2, .int (nI 0)), (1, .int (C8_end M (tN (M 1 3)) 5)), (0, .ref (mo 0))]) dX8_note_108 0 rfl (show nI ((n + 2) + 1) + Int32.ofInt (-1) = nI (n + 2) from pk_m1 (n + 2)) (by decide) rfl ?_
            refine j_goto cx (pc := 111) (tgt := 81) dX8_note_111 (by decide) ?_
            refine j_lvm (lv' := [(3, .int (nI (n + 2))), (2, .int (nI 0)), (1, .int (C8_end M (tN (M 1 3)) 5)), (0, .ref (mo 0))]) (by intro z hz; simp only [List.mem_cons, List.not_mem_nil, or_false] at hz ⊢; rcases hz with rfl | rfl | rfl | rfl <;> simp) ?_
            refine j_bs (Bs' := [moB Y mo (setC V2 1 (sh3 (V2 1) (n + 2)))]) (by subst hV11; subst hV10; rw [sh3_s V2 1 (n + 2) (by omega) (by omega)]) ?_
            exact ih (by omega)
        refine j_bs (Bs' := [moB Y mo (setC V2 1 (sh3 (V2 1) 149))]) (by rw [sh3_0 V2 1]) ?_
        refine j_lvm (lv' := [(3, .int (nI 149)), (2, .int (nI 0)), (1, .int (C8_end M (tN (M 1 3)) 5)), (0, .ref (mo 0))]) (by intro z hz; simp only [List.mem_cons, List.not_mem_nil, or_false] at hz ⊢; rcases hz with rfl | rfl | rfl | rfl <;> simp) ?_
        exact lp4 (149 - 2) (by omega)
      | succ n ih =>
        intro i hi h0
        obtain ⟨V12, hV12⟩ : ∃ z, z = setC M 1 (shl (M 1) 149 i) := ⟨_, rfl⟩
        refine j_bs (Bs' := [moB Y mo V12]) (by rw [hV12]) ?_
        refine j_iload_n cx (pc := 32) dX8_note_32 0 rfl ?_
        refine j_bipush cx (pc := 33) (v := (nI 19)) dX8_note_33 (by decide) ?_
        refine j_icmpN_ge cx (pc := 35) (by omega) (by decide) (tgt := 66) dX8_note_35 (by decide) (fun c35_7 => by exfalso; omega) (fun c35_7 => ?_)
        refine j_aload_n cx (pc := 38) dX8_note_38 3 rfl ?_
        refine j_get cx (pc := 39) 0 0 rfl rfl (C := RX8) (T := TX8) (N := 12) rfl hinX8 0 (by decide) f7 rfl (v := .ref (mo 1)) rfl dX8_note_39 ?_
        refine j_sipush cx (pc := 42) (v := (nI 149)) dX8_note_42 (by decide) ?_
        refine j_iload_n cx (pc := 45) dX8_note_45 0 rfl ?_
        refine j_iaddN cx (pc := 46) dX8_note_46 ?_
        refine j_aload_n cx (pc := 47) dX8_note_47 3 rfl ?_
        refine j_get cx (pc := 48) 0 0 rfl rfl (C := RX8) (T := TX8) (N := 12) rfl hinX8 0 (by decide) f7 rfl (v := .ref (mo 1)) rfl dX8_note_48 ?_
        refine j_sipush cx (pc := 51) (v := (nI 149)) dX8_note_51 (by decide) ?_
        refine j_iload_n cx (pc := 54) dX8_note_54 0 rfl ?_
        refine j_iaddN cx (pc := 55) dX8_note_55 ?_
        refine j_iconst cx (pc := 56) (v := (nI 1)) dX8_note_56 (by decide) ?_
        refine j_iaddN cx (pc := 57) dX8_note_57 ?_
        refine j_iald cx (pc := 58) 0 1 0 rfl rfl rfl (by omega) (by decide) dX8_note_58 ?_
        obtain ⟨V13, hV13⟩ : ∃ z, z = up1 V12 1 (149 + i) (V12 1 ((149 + i) + 1)) := ⟨_, rfl⟩
        refine j_iast cx (pc := 59) 0 1 0 rfl rfl rfl (by omega) (by decide) (Bs' := [moB Y mo V13]) (by rw [hV13]; rfl) dX8_note_59 ?_
        refine j_iinc cx (pc := 60) (v := (nI (i + 1))) (lv' := [(3, .int (nI (i + 1))), (2, .int (nI 0)), (1, .int (C8_end M (tN (M 1 3)) 5)), (0, .ref (mo 0))]) dX8_note_60 0 rfl (show nI i + nI 1 = nI (i + 1) from nI_add _ _) (by decide) rfl ?_
        refine j_goto cx (pc := 63) (tgt := 32) dX8_note_63 (by decide) ?_
        refine j_lvm (lv' := [(3, .int (nI (i + 1))), (2, .int (nI 0)), (1, .int (C8_end M (tN (M 1 3)) 5)), (0, .ref (mo 0))]) (by intro z hz; simp only [List.mem_cons, List.not_mem_nil, or_false] at hz ⊢; rcases hz with rfl | rfl | rfl | rfl <;> simp) ?_
        refine j_bs (Bs' := [moB Y mo (setC M 1 (shl (M 1) 149 (i + 1)))]) (by subst hV13; subst hV12; rw [shl_s M 1 149 i]) ?_
        exact ih (i + 1) (by omega) (by omega)
    refine j_bs (Bs' := [moB Y mo (setC M 1 (shl (M 1) 149 0))]) (by rw [shl_0 M 1 149]) ?_
    refine j_lvm (lv' := [(3, .int (nI 0)), (2, .int (nI 0)), (1, .int (C8_end M (tN (M 1 3)) 5)), (0, .ref (mo 0))]) (by intro z hz; simp only [List.mem_cons, List.not_mem_nil, or_false] at hz ⊢; rcases hz with rfl | rfl | rfl | rfl <;> simp) ?_
    exact lp2 (19 - 0) 0 (by omega) (Nat.le_refl _)
  · skip
    refine j_iconst cx (pc := 24) (v := (nI 1)) dX8_note_24 (by decide) ?_
    refine j_goto cx (pc := 25) (tgt := 29) dX8_note_25 (by decide) ?_
    refine j_istore_n cx (pc := 29) (lv' := [(2, .int (nI 1)), (1, .int (C8_end M (tN (M 1 3)) 5)), (0, .ref (mo 0))]) dX8_note_29 (by decide) rfl ?_
    refine j_iconst cx (pc := 30) (v := (nI 0)) dX8_note_30 (by decide) ?_
    refine j_istore_n cx (pc := 31) (lv' := [(3, .int (nI 0)), (2, .int (nI 1)), (1, .int (C8_end M (tN (M 1 3)) 5)), (0, .ref (mo 0))]) dX8_note_31 (by decide) rfl ?_
    have lp8 : ∀ (n i : Nat), i + n = 19 → 0 ≤ i → J p l e { frames := 2, cells := 0, slots := 0, locals := 48 } s m args below meth c 4 D A 0 0 Q ([moB Y mo (setC M 1 (shl (M 1) 149 i))]) 32 [(3, .int (nI i)), (2, .int (nI 1)), (1, .int (C8_end M (tN (M 1 3)) 5)), (0, .ref (mo 0))] [] := by
      intro n
      induction n with
      | zero =>
        intro i hi h0
        have hi2 : i = 19 := by omega
        subst hi2
        obtain ⟨V14, hV14⟩ : ∃ z, z = setC M 1 (shl (M 1) 149 19) := ⟨_, rfl⟩
        have cnV14 : vp_in (V14 1 10) 100 := by rw [hV14]; exact e_setC (by show (if _ then _ else _) = _; exact if_neg (by omega)) hn
        refine j_bs (Bs' := [moB Y mo V14]) (by rw [hV14]) ?_
        refine j_iload_n cx (pc := 32) dX8_note_32 0 rfl ?_
        refine j_bipush cx (pc := 33) (v := (nI 19)) dX8_note_33 (by decide) ?_
        refine j_icmpN_ge cx (pc := 35) (by decide) (by decide) (tgt := 66) dX8_note_35 (by decide) (fun c35_9 => ?_) (fun c35_9 => by exfalso; revert c35_9; decide)
        refine j_aload_n cx (pc := 66) dX8_note_66 3 rfl ?_
        refine j_get cx (pc := 67) 0 0 rfl rfl (C := RX8) (T := TX8) (N := 12) rfl hinX8 0 (by decide) f7 rfl (v := .ref (mo 1)) rfl dX8_note_67 ?_
        refine j_bipush cx (pc := 70) (v := (nI 9)) dX8_note_70 (by decide) ?_
        refine j_dup2 cx (pc := 72) dX8_note_72 rfl rfl ?_
        refine j_iald cx (pc := 73) 0 1 0 rfl rfl rfl (by decide) (by decide) dX8_note_73 ?_
        refine j_iconst cx (pc := 74) (v := (nI 1)) dX8_note_74 (by decide) ?_
        refine j_isub cx (pc := 75) dX8_note_75 ?_
        obtain ⟨V15, hV15⟩ : ∃ z, z = up1 V14 1 9 ((V14 1 9) - (nI 1)) := ⟨_, rfl⟩
        have cnV15 : vp_in (V15 1 10) 100 := by rw [hV15]; exact cn_up (by omega) cnV14
        refine j_iast cx (pc := 76) 0 1 0 rfl rfl rfl (by decide) (by decide) (Bs' := [moB Y mo V15]) (by rw [hV15]; rfl) dX8_note_76 ?_
        refine j_sipush cx (pc := 77) (v := (nI 149)) dX8_note_77 (by decide) ?_
        refine j_istore_n cx (pc := 80) (lv' := [(3, .int (nI 149)), (2, .int (nI 1)), (1, .int (C8_end M (tN (M 1 3)) 5)), (0, .ref (mo 0))]) dX8_note_80 (by decide) rfl ?_
        have lp10 : ∀ (n : Nat), n + 2 ≤ 149 → J p l e { frames := 2, cells := 0, slots := 0, locals := 48 } s m args below meth c 4 D A 0 0 Q ([moB Y mo (setC V15 1 (sh3 (V15 1) (n + 2)))]) 81 [(3, .int (nI (n + 2))), (2, .int (nI 1)), (1, .int (C8_end M (tN (M 1 3)) 5)), (0, .ref (mo 0))] [] := by
          intro n
          induction n with
          | zero =>
            intro h0
            obtain ⟨V16, hV16⟩ : ∃ z, z = setC V15 1 (sh3 (V15 1) 2) := ⟨_, rfl⟩
            have cnV16 : vp_in (V16 1 10) 100 := by rw [hV16]; exact e_setC (by show (if _ then _ else _) = _; exact if_neg (by omega)) cnV15
            refine j_bs (Bs' := [moB Y mo V16]) (by rw [hV16]) ?_
            refine j_lvm (lv' := [(3, .int (nI 2)), (2, .int (nI 1)), (1, .int (C8_end M (tN (M 1 3)) 5)), (0, .ref (mo 0))]) (by intro z hz; simpa using hz) ?_
            refine j_iload_n cx (pc := 81) dX8_note_81 0 rfl ?_
            refine j_iconst cx (pc := 82) (v := (nI 2)) dX8_note_82 (by decide) ?_
            refine j_icmpN_le cx (pc := 83) (by decide) (by decide) (tgt := 114) dX8_note_83 (by decide) (fun c83_11 => ?_) (fun c83_11 => by exfalso; revert c83_11; decide)
            refine j_aload_n cx (pc := 114) dX8_note_114 3 rfl ?_
            refine j_get cx (pc := 115) 0 0 rfl rfl (C := RX8) (T := TX8) (N := 12) rfl hinX8 0 (by decide) f7 rfl (v := .ref (mo 1)) rfl dX8_note_115 ?_
            refine j_sipush cx (pc := 118) (v := (nI 169)) dX8_note_118 (by decide) ?_
            refine j_iload_n cx (pc := 121) dX8_note_121 2 rfl ?_
            obtain ⟨V17, hV17⟩ : ∃ z, z = up1 V16 1 169 (C8_end M (tN (M 1 3)) 5) := ⟨_, rfl⟩
            have cnV17 : vp_in (V17 1 10) 100 := by rw [hV17]; exact cn_up (by omega) cnV16
            refine j_iast cx (pc := 122) 0 1 0 rfl rfl rfl (by decide) (by decide) (Bs' := [moB Y mo V17]) (by rw [hV17]; rfl) dX8_note_122 ?_
            refine j_aload_n cx (pc := 123) dX8_note_123 3 rfl ?_
            refine j_get cx (pc := 124) 0 0 rfl rfl (C := RX8) (T := TX8) (N := 12) rfl hinX8 0 (by decide) f7 rfl (v := .ref (mo 1)) rfl dX8_note_124 ?_
            refine j_sipush cx (pc := 127) (v := (nI 170)) dX8_note_127 (by decide) ?_
            refine j_aload_n cx (pc := 130) dX8_note_130 3 rfl ?_
            refine j_get cx (pc := 131) 0 0 rfl rfl (C := RX8) (T := TX8) (N := 12) rfl hinX8 0 (by decide) f7 rfl (v := .ref (mo 1)) rfl dX8_note_131 ?_
            refine j_iconst cx (pc := 134) (v := (nI 4)) dX8_note_134 (by decide) ?_
            refine j_iald cx (pc := 135) 0 1 0 rfl rfl rfl (by decide) (by decide) dX8_note_135 ?_
            obtain ⟨V18, hV18⟩ : ∃ z, z = up1 V17 1 170 (V17 1 4) := ⟨_, rfl⟩
            have cnV18 : vp_in (V18 1 10) 100 := by rw [hV18]; exact cn_up (by omega) cnV17
            refine j_iast cx (pc := 136) 0 1 0 rfl rfl rfl (by decide) (by decide) (Bs' := [moB Y mo V18]) (by rw [hV18]; rfl) dX8_note_136 ?_
            refine j_aload_n cx (pc := 137) dX8_note_137 3 rfl ?_
            refine j_get cx (pc := 138) 0 0 rfl rfl (C := RX8) (T := TX8) (N := 12) rfl hinX8 0 (by decide) f7 rfl (v := .ref (mo 1)) rfl dX8_note_138 ?_
            refine j_sipush cx (pc := 141) (v := (nI 171)) dX8_note_141 (by decide) ?_
            refine j_iload_n cx (pc := 144) dX8_note_144 1 rfl ?_
            obtain ⟨V19, hV19⟩ : ∃ z, z = up1 V18 1 171 (nI 1) := ⟨_, rfl⟩
            have cnV19 : vp_in (V19 1 10) 100 := by rw [hV19]; exact cn_up (by omega) cnV18
            refine j_iast cx (pc := 145) 0 1 0 rfl rfl rfl (by decide) (by decide) (Bs' := [moB Y mo V19]) (by rw [hV19]; rfl) dX8_note_145 ?_
            refine j_aload_n cx (pc := 146) dX8_note_146 3 rfl ?_
            refine j_get cx (pc := 147) 0 0 rfl rfl (C := RX8) (T := TX8) (N := 12) rfl hinX8 0 (by decide) f7 rfl (v := .ref (mo 1)) rfl dX8_note_147 ?_
            refine j_iconst cx (pc := 150) (v := (nI 5)) dX8_note_150 (by decide) ?_
            refine j_dup2 cx (pc := 151) dX8_note_151 rfl rfl ?_
            refine j_iald cx (pc := 152) 0 1 0 rfl rfl rfl (by decide) (by decide) dX8_note_152 ?_
            refine j_iconst cx (pc := 153) (v := (nI 1)) dX8_note_153 (by decide) ?_
            refine j_iadd cx (pc := 154) dX8_note_154 ?_
            obtain ⟨V20, hV20⟩ : ∃ z, z = up1 V19 1 5 ((V19 1 5) + (nI 1)) := ⟨_, rfl⟩
            have cnV20 : vp_in (V20 1 10) 100 := by rw [hV20]; exact cn_up (by omega) cnV19
            refine j_iast cx (pc := 155) 0 1 0 rfl rfl rfl (by decide) (by decide) (Bs' := [moB Y mo V20]) (by rw [hV20]; rfl) dX8_note_155 ?_
            refine j_aload_n cx (pc := 156) dX8_note_156 3 rfl ?_
            refine j_get cx (pc := 157) 0 0 rfl rfl (C := RX8) (T := TX8) (N := 12) rfl hinX8 0 (by decide) f7 rfl (v := .ref (mo 1)) rfl dX8_note_157 ?_
            refine j_bipush cx (pc := 160) (v := (nI 6)) dX8_note_160 (by decide) ?_
            refine j_dup2 cx (pc := 162) dX8_note_162 rfl rfl ?_
            refine j_iald cx (pc := 163) 0 1 0 rfl rfl rfl (by decide) (by decide) dX8_note_163 ?_
            refine j_iload_n cx (pc := 164) dX8_note_164 1 rfl ?_
            refine j_iadd cx (pc := 165) dX8_note_165 ?_
            obtain ⟨V21, hV21⟩ : ∃ z, z = up1 V20 1 6 ((V20 1 6) + (nI 1)) := ⟨_, rfl⟩
            have cnV21 : vp_in (V21 1 10) 100 := by rw [hV21]; exact cn_up (by omega) cnV20
            refine j_iast cx (pc := 166) 0 1 0 rfl rfl rfl (by decide) (by decide) (Bs' := [moB Y mo V21]) (by rw [hV21]; rfl) dX8_note_166 ?_
            refine j_aload_n cx (pc := 167) dX8_note_167 3 rfl ?_
            refine j_aload_n cx (pc := 168) dX8_note_168 3 rfl ?_
            refine j_get cx (pc := 169) 0 0 rfl rfl (C := RX8) (T := TX8) (N := 12) rfl hinX8 0 (by decide) f7 rfl (v := .ref (mo 1)) rfl dX8_note_169 ?_
            refine j_iconst cx (pc := 172) (v := (nI 3)) dX8_note_172 (by decide) ?_
            refine j_iald cx (pc := 173) 0 1 0 rfl rfl rfl (by decide) (by decide) dX8_note_173 ?_
            have e3 : V21 1 3 = nI (tN (M 1 3)) := by subst_vars; exact inN hst
            refine j_top (show (V21 1 3) = (nI (tN (M 1 3))) from e3) ?_
            refine j_iconst cx (pc := 174) (v := (nI 1)) dX8_note_174 (by decide) ?_
            refine j_aload_n cx (pc := 175) dX8_note_175 3 rfl ?_
            refine j_get cx (pc := 176) 0 0 rfl rfl (C := RX8) (T := TX8) (N := 12) rfl hinX8 0 (by decide) f7 rfl (v := .ref (mo 1)) rfl dX8_note_176 ?_
            refine j_iconst cx (pc := 179) (v := (nI 1)) dX8_note_179 (by decide) ?_
            refine j_iald cx (pc := 180) 0 1 0 rfl rfl rfl (by decide) (by decide) dX8_note_180 ?_
            obtain ⟨V22, hV22⟩ : ∃ z, z = (C8_answer V21 (tN (M 1 3)) (nI 1) (V21 1 1)) := ⟨_, rfl⟩
            have cnV22 : vp_in (V22 1 10) 101 := by rw [hV22]; exact cn_answer cnV21
            refine j_callv cx (pc := 181) 3 (c_X8_answer l D Y mo V21 (tN (M 1 3)) (nI 1) (V21 1 1) (by omega) (vp_mono cnV21 (by decide))) gX8_note_X8_answer rfl (by decide +kernel) rfl ⟨Nat.le_of_ble_eq_true rfl, Nat.le_of_ble_eq_true rfl⟩ [0] rfl (by decide) (Bs' := [moB Y mo V22]) (by rw [hV22]; exact P1_mo V21 (C8_answer V21 (tN (M 1 3)) (nI 1) (V21 1 1))) A1_mo 0 0 rfl rfl rfl rfl (Nat.le_of_ble_eq_true rfl) dX8_note_181 ⟨Nat.zero_le _, Nat.zero_le _⟩ ?_
            subst hQ; exact j_vret cx hr (by subst hV22; subst hV21; subst hV20; subst hV19; subst hV18; subst hV17; subst hV16; subst hV15; subst hV14; simp only [C8_note, if_pos c21_1]) hA dX8_note_184
          | succ n ih =>
            intro h0
            obtain ⟨V23, hV23⟩ : ∃ z, z = setC V15 1 (sh3 (V15 1) ((n + 2) + 1)) := ⟨_, rfl⟩
            refine j_bs (Bs' := [moB Y mo V23]) (by rw [hV23]) ?_
            refine j_lvm (lv' := [(3, .int (nI ((n + 2) + 1))), (2, .int (nI 1)), (1, .int (C8_end M (tN (M 1 3)) 5)), (0, .ref (mo 0))]) (fun z hz => hz) ?_
            refine j_iload_n cx (pc := 81) dX8_note_81 0 rfl ?_
            refine j_iconst cx (pc := 82) (v := (nI 2)) dX8_note_82 (by decide) ?_
            refine j_icmpN_le cx (pc := 83) (by omega) (by decide) (tgt := 114) dX8_note_83 (by decide) (fun c83_12 => by exfalso; omega) (fun c83_12 => ?_)
            refine j_aload_n cx (pc := 86) dX8_note_86 3 rfl ?_
            refine j_get cx (pc := 87) 0 0 rfl rfl (C := RX8) (T := TX8) (N := 12) rfl hinX8 0 (by decide) f7 rfl (v := .ref (mo 1)) rfl dX8_note_87 ?_
            refine j_sipush cx (pc := 90) (v := (nI 169)) dX8_note_90 (by decide) ?_
            refine j_iload_n cx (pc := 93) dX8_note_93 0 rfl ?_
            refine j_iaddN cx (pc := 94) dX8_note_94 ?_
            refine j_aload_n cx (pc := 95) dX8_note_95 3 rfl ?_
            refine j_get cx (pc := 96) 0 0 rfl rfl (C := RX8) (T := TX8) (N := 12) rfl hinX8 0 (by decide) f7 rfl (v := .ref (mo 1)) rfl dX8_note_96 ?_
            refine j_sipush cx (pc := 99) (v := (nI 169)) dX8_note_99 (by decide) ?_
            refine j_iload_n cx (pc := 102) dX8_note_102 0 rfl ?_
            refine j_iaddN cx (pc := 103) dX8_note_103 ?_
            refine j_iconst cx (pc := 104) (v := (nI 3)) dX8_note_104 (by decide) ?_
            refine j_isubN cx (pc := 105) (by omega) dX8_note_105 ?_
            refine j_iald cx (pc := 106) 0 1 0 rfl rfl rfl (by omega) (by decide) dX8_note_106 ?_
            obtain ⟨V24, hV24⟩ : ∃ z, z = up1 V23 1 (169 + ((n + 2) + 1)) (V23 1 ((169 + ((n + 2) + 1)) - 3)) := ⟨_, rfl⟩
            refine j_iast cx (pc := 107) 0 1 0 rfl rfl rfl (by omega) (by decide) (Bs' := [moB Y mo V24]) (by rw [hV24]; rfl) dX8_note_107 ?_
            refine j_iinc cx (pc := 108) (v := (nI (n + 2))) (lv' := [(3, .int (nI (n + 2))), (2, .int (nI 1)), (1, .int (C8_end M (tN (M 1 3)) 5)), (0, .ref (mo 0))]) dX8_note_108 0 rfl (show nI ((n + 2) + 1) + Int32.ofInt (-1) = nI (n + 2) from pk_m1 (n + 2)) (by decide) rfl ?_
            refine j_goto cx (pc := 111) (tgt := 81) dX8_note_111 (by decide) ?_
            refine j_lvm (lv' := [(3, .int (nI (n + 2))), (2, .int (nI 1)), (1, .int (C8_end M (tN (M 1 3)) 5)), (0, .ref (mo 0))]) (by intro z hz; simp only [List.mem_cons, List.not_mem_nil, or_false] at hz ⊢; rcases hz with rfl | rfl | rfl | rfl <;> simp) ?_
            refine j_bs (Bs' := [moB Y mo (setC V15 1 (sh3 (V15 1) (n + 2)))]) (by subst hV24; subst hV23; rw [sh3_s V15 1 (n + 2) (by omega) (by omega)]) ?_
            exact ih (by omega)
        refine j_bs (Bs' := [moB Y mo (setC V15 1 (sh3 (V15 1) 149))]) (by rw [sh3_0 V15 1]) ?_
        refine j_lvm (lv' := [(3, .int (nI 149)), (2, .int (nI 1)), (1, .int (C8_end M (tN (M 1 3)) 5)), (0, .ref (mo 0))]) (by intro z hz; simp only [List.mem_cons, List.not_mem_nil, or_false] at hz ⊢; rcases hz with rfl | rfl | rfl | rfl <;> simp) ?_
        exact lp10 (149 - 2) (by omega)
      | succ n ih =>
        intro i hi h0
        obtain ⟨V25, hV25⟩ : ∃ z, z = setC M 1 (shl (M 1) 149 i) := ⟨_, rfl⟩
        refine j_bs (Bs' := [moB Y mo V25]) (by rw [hV25]) ?_
        refine j_iload_n cx (pc := 32) dX8_note_32 0 rfl ?_
        refine j_bipush cx (pc := 33) (v := (nI 19)) dX8_note_33 (by decide) ?_
        refine j_icmpN_ge cx (pc := 35) (by omega) (by decide) (tgt := 66) dX8_note_35 (by decide) (fun c35_13 => by exfalso; omega) (fun c35_13 => ?_)
        refine j_aload_n cx (pc := 38) dX8_note_38 3 rfl ?_
        refine j_get cx (pc := 39) 0 0 rfl rfl (C := RX8) (T := TX8) (N := 12) rfl hinX8 0 (by decide) f7 rfl (v := .ref (mo 1)) rfl dX8_note_39 ?_
        refine j_sipush cx (pc := 42) (v := (nI 149)) dX8_note_42 (by decide) ?_
        refine j_iload_n cx (pc := 45) dX8_note_45 0 rfl ?_
        refine j_iaddN cx (pc := 46) dX8_note_46 ?_
        refine j_aload_n cx (pc := 47) dX8_note_47 3 rfl ?_
        refine j_get cx (pc := 48) 0 0 rfl rfl (C := RX8) (T := TX8) (N := 12) rfl hinX8 0 (by decide) f7 rfl (v := .ref (mo 1)) rfl dX8_note_48 ?_
        refine j_sipush cx (pc := 51) (v := (nI 149)) dX8_note_51 (by decide) ?_
        refine j_iload_n cx (pc := 54) dX8_note_54 0 rfl ?_
        refine j_iaddN cx (pc := 55) dX8_note_55 ?_
        refine j_iconst cx (pc := 56) (v := (nI 1)) dX8_note_56 (by decide) ?_
        refine j_iaddN cx (pc := 57) dX8_note_57 ?_
        refine j_iald cx (pc := 58) 0 1 0 rfl rfl rfl (by omega) (by decide) dX8_note_58 ?_
        obtain ⟨V26, hV26⟩ : ∃ z, z = up1 V25 1 (149 + i) (V25 1 ((149 + i) + 1)) := ⟨_, rfl⟩
        refine j_iast cx (pc := 59) 0 1 0 rfl rfl rfl (by omega) (by decide) (Bs' := [moB Y mo V26]) (by rw [hV26]; rfl) dX8_note_59 ?_
        refine j_iinc cx (pc := 60) (v := (nI (i + 1))) (lv' := [(3, .int (nI (i + 1))), (2, .int (nI 1)), (1, .int (C8_end M (tN (M 1 3)) 5)), (0, .ref (mo 0))]) dX8_note_60 0 rfl (show nI i + nI 1 = nI (i + 1) from nI_add _ _) (by decide) rfl ?_
        refine j_goto cx (pc := 63) (tgt := 32) dX8_note_63 (by decide) ?_
        refine j_lvm (lv' := [(3, .int (nI (i + 1))), (2, .int (nI 1)), (1, .int (C8_end M (tN (M 1 3)) 5)), (0, .ref (mo 0))]) (by intro z hz; simp only [List.mem_cons, List.not_mem_nil, or_false] at hz ⊢; rcases hz with rfl | rfl | rfl | rfl <;> simp) ?_
        refine j_bs (Bs' := [moB Y mo (setC M 1 (shl (M 1) 149 (i + 1)))]) (by subst hV26; subst hV25; rw [shl_s M 1 149 i]) ?_
        exact ih (i + 1) (by omega) (by omega)
    refine j_bs (Bs' := [moB Y mo (setC M 1 (shl (M 1) 149 0))]) (by rw [shl_0 M 1 149]) ?_
    refine j_lvm (lv' := [(3, .int (nI 0)), (2, .int (nI 1)), (1, .int (C8_end M (tN (M 1 3)) 5)), (0, .ref (mo 0))]) (by intro z hz; simp only [List.mem_cons, List.not_mem_nil, or_false] at hz ⊢; rcases hz with rfl | rfl | rfl | rfl <;> simp) ?_
    exact lp8 (19 - 0) 0 (by omega) (Nat.le_refl _)
