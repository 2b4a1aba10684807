def CL_due0 (G : Nat → Nat → Int32) (a : Nat) (b : Nat) (v : Nat) : Int32 × (Nat → Nat → Int32) :=
  if (tN (G 0 (11 + a))) = 20 then
    ((-3), G)
  else
    let V1 := up1 G 4 ((20 * a) + (tN (G 0 (11 + a)))) (nI b)
    let V2 := up1 V1 0 (11 + a) ((V1 0 (11 + a)) + (nI 1))
    let V3 := (CL_serves V2)
    ((V3 0 (11 + a)), V3)
set_option maxHeartbeats 4000000 in
set_option maxRecDepth 100000 in
theorem c_L_due0 (l : Launch) (D : va_G) (Y : Nat → ClassId) (la : Nat → Nat) (G : Nat → Nat → Int32) (a : Nat) (b : Nat) (v : Nat) (cn0 : vp_in (G 0 10) 63) (pd0 : vp_in (G 0 9) 20) (ha : a < 2) (rw0 : vp_in (G 0 (11 + a)) 21) : CtI l yL_due wsL_due 3 84 D (tyL Y) [lwB Y la G] [.int (nI 0), .int (nI a), .int (nI b), .int (nI v), .ref (la 0), .ref (la 1), .ref (la 2), .ref (la 3), .ref (la 4), .ref (la 5), .ref (la 6), .ref (la 7), .ref (la 8)] (CL_due0 G a b v).1 [lwB Y la (CL_due0 G a b v).2] := by
  refine CtI.intro (own := RL) (cc := cL_due) (maxL := 17) rfl (by decide +kernel) rfl (Nat.le_of_ble_eq_true rfl) (fun p e s m args below meth c A Q hA hQ cx hr => ?_)
  refine j_aload cx (pc := 0) dL_due_0 4 rfl ?_
  refine j_iconst cx (pc := 2) (v := (nI 4)) dL_due_2 (by decide) ?_
  refine j_iald cx (pc := 3) 0 0 0 rfl rfl rfl (by decide) (by decide) dL_due_3 ?_
  refine j_istore cx (pc := 4) (lv' := [(13, .int (G 0 4)), (0, .int (nI 0)), (1, .int (nI a)), (2, .int (nI b)), (3, .int (nI v)), (4, .ref (la 0)), (5, .ref (la 1)), (6, .ref (la 2)), (7, .ref (la 3)), (8, .ref (la 4)), (9, .ref (la 5)), (10, .ref (la 6)), (11, .ref (la 7)), (12, .ref (la 8))]) dL_due_4 (by decide) rfl ?_
  refine j_iload_n cx (pc := 6) dL_due_6 1 rfl ?_
  refine j_iconst cx (pc := 7) (v := (nI 2)) dL_due_7 (by decide) ?_
  refine j_icmpN_ne cx (pc := 8) (by decide) (by decide) (tgt := 22) dL_due_8 (by decide) (fun c8_1 => ?_) (fun c8_1 => by exfalso; revert c8_1; decide)
  refine j_iload_n cx (pc := 22) dL_due_22 1 rfl ?_
  refine j_iconst cx (pc := 23) (v := (nI 3)) dL_due_23 (by decide) ?_
  refine j_icmpN_ne cx (pc := 24) (by decide) (by decide) (tgt := 34) dL_due_24 (by decide) (fun c24_2 => ?_) (fun c24_2 => by exfalso; revert c24_2; decide)
  refine j_iload_n cx (pc := 34) dL_due_34 1 rfl ?_
  refine j_iconst cx (pc := 35) (v := (nI 4)) dL_due_35 (by decide) ?_
  refine j_icmpN_ne cx (pc := 36) (by decide) (by decide) (tgt := 61) dL_due_36 (by decide) (fun c36_3 => ?_) (fun c36_3 => by exfalso; revert c36_3; decide)
  refine j_aload cx (pc := 61) dL_due_61 5 rfl ?_
  refine j_iconst cx (pc := 63) (v := (nI 5)) dL_due_63 (by decide) ?_
  refine j_iald cx (pc := 64) 0 0 0 rfl rfl rfl (by decide) (by decide) dL_due_64 ?_
  refine j_istore cx (pc := 65) (lv' := [(14, .int (G 0 5)), (13, .int (G 0 4)), (0, .int (nI 0)), (1, .int (nI a)), (2, .int (nI b)), (3, .int (nI v)), (4, .ref (la 0)), (5, .ref (la 1)), (6, .ref (la 2)), (7, .ref (la 3)), (8, .ref (la 4)), (9, .ref (la 5)), (10, .ref (la 6)), (11, .ref (la 7)), (12, .ref (la 8))]) dL_due_65 (by decide) rfl ?_
  refine j_iload_n cx (pc := 67) dL_due_67 2 rfl ?_
  refine j_ifN_ne cx (pc := 68) (by decide) (tgt := 140) dL_due_68 (by decide) (fun c68_4 => by exfalso; revert c68_4; decide) (fun c68_4 => ?_)
  refine j_aload cx (pc := 71) dL_due_71 6 rfl ?_
  refine j_bipush cx (pc := 73) (v := (nI 11)) dL_due_73 (by decide) ?_
  refine j_iload_n cx (pc := 75) dL_due_75 3 rfl ?_
  refine j_iaddN cx (pc := 76) dL_due_76 ?_
  refine j_iald cx (pc := 77) 0 0 0 rfl rfl rfl (by omega) (by decide) dL_due_77 ?_
  have rwl78 := inL rw0
  refine j_top (show (G 0 (11 + a)) = (nI (tN (G 0 (11 + a)))) from inN rw0) ?_
  refine j_bipush cx (pc := 78) (v := (nI 20)) dL_due_78 (by decide) ?_
  refine j_icmpN_ne cx (pc := 80) (by omega) (by decide) (tgt := 86) dL_due_80 (by decide) (fun c80_5 => ?_) (fun c80_5 => ?_)
  · skip
    refine j_aload cx (pc := 86) dL_due_86 10 rfl ?_
    refine j_bipush cx (pc := 88) (v := (nI 20)) dL_due_88 (by decide) ?_
    refine j_iload_n cx (pc := 90) dL_due_90 3 rfl ?_
    refine j_imulN cx (pc := 91) dL_due_91 ?_
    refine j_aload cx (pc := 92) dL_due_92 6 rfl ?_
    refine j_bipush cx (pc := 94) (v := (nI 11)) dL_due_94 (by decide) ?_
    refine j_iload_n cx (pc := 96) dL_due_96 3 rfl ?_
    refine j_iaddN cx (pc := 97) dL_due_97 ?_
    refine j_iald cx (pc := 98) 0 0 0 rfl rfl rfl (by omega) (by decide) dL_due_98 ?_
    have rwl99 := inL rw0
    refine j_top (show (G 0 (11 + a)) = (nI (tN (G 0 (11 + a)))) from inN rw0) ?_
    refine j_iaddN cx (pc := 99) dL_due_99 ?_
    refine j_iload_n cx (pc := 100) dL_due_100 4 rfl ?_
    obtain ⟨V1, hV1⟩ : ∃ z, z = up1 G 4 ((20 * a) + (tN (G 0 (11 + a)))) (nI b) := ⟨_, rfl⟩
    have cnV1 : vp_in (V1 0 10) 63 := by rw [hV1]; exact lvp_up (by omega) cn0
    have pdV1 : vp_in (V1 0 9) 20 := by rw [hV1]; exact lvp_up (by omega) pd0
    refine j_iast cx (pc := 101) 0 4 0 rfl rfl rfl (by omega) (by decide) (Bs' := [lwB Y la V1]) (by rw [hV1]; rfl) dL_due_101 ?_
    refine j_aload cx (pc := 102) dL_due_102 6 rfl ?_
    refine j_bipush cx (pc := 104) (v := (nI 11)) dL_due_104 (by decide) ?_
    refine j_iload_n cx (pc := 106) dL_due_106 3 rfl ?_
    refine j_iaddN cx (pc := 107) dL_due_107 ?_
    refine j_dup2 cx (pc := 108) dL_due_108 rfl rfl ?_
    refine j_iald cx (pc := 109) 0 0 0 rfl rfl rfl (by omega) (by decide) dL_due_109 ?_
    refine j_iconst cx (pc := 110) (v := (nI 1)) dL_due_110 (by decide) ?_
    refine j_iadd cx (pc := 111) dL_due_111 ?_
    obtain ⟨V2, hV2⟩ : ∃ z, z = up1 V1 0 (11 + a) ((V1 0 (11 + a)) + (nI 1)) := ⟨_, rfl⟩
    have cnV2 : vp_in (V2 0 10) 63 := by rw [hV2]; exact lvp_up (by omega) cnV1
    have pdV2 : vp_in (V2 0 9) 20 := by rw [hV2]; exact lvp_up (by omega) pdV1
    refine j_iast cx (pc := 112) 0 0 0 rfl rfl rfl (by omega) (by decide) (Bs' := [lwB Y la V2]) (by rw [hV2]; rfl) dL_due_112 ?_
    refine j_aload cx (pc := 113) dL_due_113 6 rfl ?_
    refine j_aload cx (pc := 115) dL_due_115 7 rfl ?_
    refine j_aload cx (pc := 117) dL_due_117 8 rfl ?_
    refine j_aload cx (pc := 119) dL_due_119 9 rfl ?_
    refine j_aload cx (pc := 121) dL_due_121 10 rfl ?_
    refine j_aload cx (pc := 123) dL_due_123 11 rfl ?_
    refine j_aload cx (pc := 125) dL_due_125 12 rfl ?_
    refine j_aload cx (pc := 127) dL_due_127 13 rfl ?_
    obtain ⟨V3, hV3⟩ : ∃ z, z = (CL_serves V2) := ⟨_, rfl⟩
    refine j_csv cx (pc := 129) 8 (c_L_serves l D Y la V2  (vp_mono cnV2 (by decide)) (vp_mono pdV2 (by decide))) gL_due_L_serves rfl (by decide +kernel) rfl ⟨Nat.le_of_ble_eq_true rfl, Nat.le_of_ble_eq_true rfl⟩ [0] rfl (by decide) (Bs' := [lwB Y la V3]) (by rw [hV3]; rfl) A1_lw rfl (Nat.le_of_ble_eq_true rfl) dL_due_129 ⟨Nat.zero_le _, Nat.zero_le _⟩ ?_
    refine j_aload cx (pc := 132) dL_due_132 6 rfl ?_
    refine j_bipush cx (pc := 134) (v := (nI 11)) dL_due_134 (by decide) ?_
    refine j_iload_n cx (pc := 136) dL_due_136 3 rfl ?_
    refine j_iaddN cx (pc := 137) dL_due_137 ?_
    refine j_iald cx (pc := 138) 0 0 0 rfl rfl rfl (by omega) (by decide) dL_due_138 ?_
    subst hQ; exact j_iret cx hr (by subst hV3; subst hV2; subst hV1; simp only [CL_due0, if_neg c80_5]) (by subst hV3; subst hV2; subst hV1; simp only [CL_due0, if_neg c80_5]) hA dL_due_139
  · skip
    refine j_bipush cx (pc := 83) (v := (-3)) dL_due_83 (by decide) ?_
    subst hQ; exact j_iret cx hr (by simp only [CL_due0, if_pos c80_5]) (by simp only [CL_due0, if_pos c80_5]) hA dL_due_85
def CL_due2 (G : Nat → Nat → Int32) (a : Nat) (b : Nat) (v : Nat) : Int32 × (Nat → Nat → Int32) :=
  let V1 := up1 G 1 ((3 * a) + b) (nI v)
  if (G 1 ((3 * a) + b)) = (nI v) then
    ((-5), V1)
  else
    ((G 1 ((3 * a) + b)), V1)
set_option maxHeartbeats 4000000 in
set_option maxRecDepth 100000 in
theorem c_L_due2 (l : Launch) (D : va_G) (Y : Nat → ClassId) (la : Nat → Nat) (G : Nat → Nat → Int32) (a : Nat) (b : Nat) (v : Nat) (ha : a < 7) (hb : b < 3) : CtI l yL_due wsL_due 0 0 D (tyL Y) [lwB Y la G] [.int (nI 2), .int (nI a), .int (nI b), .int (nI v), .ref (la 0), .ref (la 1), .ref (la 2), .ref (la 3), .ref (la 4), .ref (la 5), .ref (la 6), .ref (la 7), .ref (la 8)] (CL_due2 G a b v).1 [lwB Y la (CL_due2 G a b v).2] := by
  refine CtI.intro (own := RL) (cc := cL_due) (maxL := 17) rfl (by decide +kernel) rfl (Nat.le_of_ble_eq_true rfl) (fun p e s m args below meth c A Q hA hQ cx hr => ?_)
  refine j_aload cx (pc := 0) dL_due_0 4 rfl ?_
  refine j_iconst cx (pc := 2) (v := (nI 4)) dL_due_2 (by decide) ?_
  refine j_iald cx (pc := 3) 0 0 0 rfl rfl rfl (by decide) (by decide) dL_due_3 ?_
  refine j_istore cx (pc := 4) (lv' := [(13, .int (G 0 4)), (0, .int (nI 2)), (1, .int (nI a)), (2, .int (nI b)), (3, .int (nI v)), (4, .ref (la 0)), (5, .ref (la 1)), (6, .ref (la 2)), (7, .ref (la 3)), (8, .ref (la 4)), (9, .ref (la 5)), (10, .ref (la 6)), (11, .ref (la 7)), (12, .ref (la 8))]) dL_due_4 (by decide) rfl ?_
  refine j_iload_n cx (pc := 6) dL_due_6 1 rfl ?_
  refine j_iconst cx (pc := 7) (v := (nI 2)) dL_due_7 (by decide) ?_
  refine j_icmpN_ne cx (pc := 8) (by decide) (by decide) (tgt := 22) dL_due_8 (by decide) (fun c8_1 => by exfalso; revert c8_1; decide) (fun c8_1 => ?_)
  refine j_aload cx (pc := 11) dL_due_11 6 rfl ?_
  refine j_iconst cx (pc := 13) (v := (nI 3)) dL_due_13 (by decide) ?_
  refine j_iload_n cx (pc := 14) dL_due_14 2 rfl ?_
  refine j_imulN cx (pc := 15) dL_due_15 ?_
  refine j_iload_n cx (pc := 16) dL_due_16 3 rfl ?_
  refine j_iaddN cx (pc := 17) dL_due_17 ?_
  refine j_iald cx (pc := 18) 0 1 0 rfl rfl rfl (by omega) (by decide) dL_due_18 ?_
  refine j_goto cx (pc := 19) (tgt := 65) dL_due_19 (by decide) ?_
  refine j_istore cx (pc := 65) (lv' := [(14, .int (G 1 ((3 * a) + b))), (13, .int (G 0 4)), (0, .int (nI 2)), (1, .int (nI a)), (2, .int (nI b)), (3, .int (nI v)), (4, .ref (la 0)), (5, .ref (la 1)), (6, .ref (la 2)), (7, .ref (la 3)), (8, .ref (la 4)), (9, .ref (la 5)), (10, .ref (la 6)), (11, .ref (la 7)), (12, .ref (la 8))]) dL_due_65 (by decide) rfl ?_
  refine j_iload_n cx (pc := 67) dL_due_67 2 rfl ?_
  refine j_ifN_ne cx (pc := 68) (by decide) (tgt := 140) dL_due_68 (by decide) (fun c68_2 => ?_) (fun c68_2 => by exfalso; revert c68_2; decide)
  refine j_iload_n cx (pc := 140) dL_due_140 2 rfl ?_
  refine j_iconst cx (pc := 141) (v := (nI 2)) dL_due_141 (by decide) ?_
  refine j_icmpN_ne cx (pc := 142) (by decide) (by decide) (tgt := 168) dL_due_142 (by decide) (fun c142_3 => by exfalso; revert c142_3; decide) (fun c142_3 => ?_)
  refine j_aload cx (pc := 145) dL_due_145 7 rfl ?_
  refine j_iconst cx (pc := 147) (v := (nI 3)) dL_due_147 (by decide) ?_
  refine j_iload_n cx (pc := 148) dL_due_148 3 rfl ?_
  refine j_imulN cx (pc := 149) dL_due_149 ?_
  refine j_iload_n cx (pc := 150) dL_due_150 4 rfl ?_
  refine j_iaddN cx (pc := 151) dL_due_151 ?_
  refine j_iload_n cx (pc := 152) dL_due_152 5 rfl ?_
  obtain ⟨V1, hV1⟩ : ∃ z, z = up1 G 1 ((3 * a) + b) (nI v) := ⟨_, rfl⟩
  refine j_iast cx (pc := 153) 0 1 0 rfl rfl rfl (by omega) (by decide) (Bs' := [lwB Y la V1]) (by rw [hV1]; rfl) dL_due_153 ?_
  refine j_iload cx (pc := 154) dL_due_154 0 rfl ?_
  refine j_iload_n cx (pc := 156) dL_due_156 5 rfl ?_
  refine j_icmp_ne cx (pc := 157) (tgt := 165) dL_due_157 (by decide) (fun c157_4 => ?_) (fun c157_4 => ?_)
  · skip
    refine j_iload cx (pc := 165) dL_due_165 0 rfl ?_
    subst hQ; exact j_iret cx hr (by subst hV1; simp only [CL_due2, if_neg c157_4]) (by subst hV1; simp only [CL_due2, if_neg c157_4]) hA dL_due_167
  · skip
    refine j_bipush cx (pc := 160) (v := (-5)) dL_due_160 (by decide) ?_
    refine j_goto cx (pc := 162) (tgt := 167) dL_due_162 (by decide) ?_
    subst hQ; exact j_iret cx hr (by subst hV1; simp only [CL_due2, if_pos c157_4]) (by subst hV1; simp only [CL_due2, if_pos c157_4]) hA dL_due_167
def CL_due3 (G : Nat → Nat → Int32) (a : Nat) (b : Nat) (v : Nat) : Int32 × (Nat → Nat → Int32) :=
  let V1 := up1 G 0 a (nI b)
  if (G 0 a) = (nI b) then
    ((-5), V1)
  else
    ((G 0 a), V1)
set_option maxHeartbeats 4000000 in
set_option maxRecDepth 100000 in
theorem c_L_due3 (l : Launch) (D : va_G) (Y : Nat → ClassId) (la : Nat → Nat) (G : Nat → Nat → Int32) (a : Nat) (b : Nat) (v : Nat) (ha : a < 3) : CtI l yL_due wsL_due 0 0 D (tyL Y) [lwB Y la G] [.int (nI 3), .int (nI a), .int (nI b), .int (nI v), .ref (la 0), .ref (la 1), .ref (la 2), .ref (la 3), .ref (la 4), .ref (la 5), .ref (la 6), .ref (la 7), .ref (la 8)] (CL_due3 G a b v).1 [lwB Y la (CL_due3 G a b v).2] := by
  refine CtI.intro (own := RL) (cc := cL_due) (maxL := 17) rfl (by decide +kernel) rfl (Nat.le_of_ble_eq_true rfl) (fun p e s m args below meth c A Q hA hQ cx hr => ?_)
  refine j_aload cx (pc := 0) dL_due_0 4 rfl ?_
  refine j_iconst cx (pc := 2) (v := (nI 4)) dL_due_2 (by decide) ?_
  refine j_iald cx (pc := 3) 0 0 0 rfl rfl rfl (by decide) (by decide) dL_due_3 ?_
  refine j_istore cx (pc := 4) (lv' := [(13, .int (G 0 4)), (0, .int (nI 3)), (1, .int (nI a)), (2, .int (nI b)), (3, .int (nI v)), (4, .ref (la 0)), (5, .ref (la 1)), (6, .ref (la 2)), (7, .ref (la 3)), (8, .ref (la 4)), (9, .ref (la 5)), (10, .ref (la 6)), (11, .ref (la 7)), (12, .ref (la 8))]) dL_due_4 (by decide) rfl ?_
  refine j_iload_n cx (pc := 6) dL_due_6 1 rfl ?_
  refine j_iconst cx (pc := 7) (v := (nI 2)) dL_due_7 (by decide) ?_
  refine j_icmpN_ne cx (pc := 8) (by decide) (by decide) (tgt := 22) dL_due_8 (by decide) (fun c8_1 => ?_) (fun c8_1 => by exfalso; revert c8_1; decide)
  refine j_iload_n cx (pc := 22) dL_due_22 1 rfl ?_
  refine j_iconst cx (pc := 23) (v := (nI 3)) dL_due_23 (by decide) ?_
  refine j_icmpN_ne cx (pc := 24) (by decide) (by decide) (tgt := 34) dL_due_24 (by decide) (fun c24_2 => by exfalso; revert c24_2; decide) (fun c24_2 => ?_)
  refine j_aload cx (pc := 27) dL_due_27 5 rfl ?_
  refine j_iload_n cx (pc := 29) dL_due_29 2 rfl ?_
  refine j_iald cx (pc := 30) 0 0 0 rfl rfl rfl (by omega) (by decide) dL_due_30 ?_
  refine j_goto cx (pc := 31) (tgt := 65) dL_due_31 (by decide) ?_
  refine j_istore cx (pc := 65) (lv' := [(14, .int (G 0 a)), (13, .int (G 0 4)), (0, .int (nI 3)), (1, .int (nI a)), (2, .int (nI b)), (3, .int (nI v)), (4, .ref (la 0)), (5, .ref (la 1)), (6, .ref (la 2)), (7, .ref (la 3)), (8, .ref (la 4)), (9, .ref (la 5)), (10, .ref (la 6)), (11, .ref (la 7)), (12, .ref (la 8))]) dL_due_65 (by decide) rfl ?_
  refine j_iload_n cx (pc := 67) dL_due_67 2 rfl ?_
  refine j_ifN_ne cx (pc := 68) (by decide) (tgt := 140) dL_due_68 (by decide) (fun c68_3 => ?_) (fun c68_3 => by exfalso; revert c68_3; decide)
  refine j_iload_n cx (pc := 140) dL_due_140 2 rfl ?_
  refine j_iconst cx (pc := 141) (v := (nI 2)) dL_due_141 (by decide) ?_
  refine j_icmpN_ne cx (pc := 142) (by decide) (by decide) (tgt := 168) dL_due_142 (by decide) (fun c142_4 => ?_) (fun c142_4 => by exfalso; revert c142_4; decide)
  refine j_iload_n cx (pc := 168) dL_due_168 2 rfl ?_
  refine j_iconst cx (pc := 169) (v := (nI 3)) dL_due_169 (by decide) ?_
  refine j_icmpN_ne cx (pc := 170) (by decide) (by decide) (tgt := 192) dL_due_170 (by decide) (fun c170_5 => by exfalso; revert c170_5; decide) (fun c170_5 => ?_)
  refine j_aload cx (pc := 173) dL_due_173 6 rfl ?_
  refine j_iload_n cx (pc := 175) dL_due_175 3 rfl ?_
  refine j_iload_n cx (pc := 176) dL_due_176 4 rfl ?_
  obtain ⟨V1, hV1⟩ : ∃ z, z = up1 G 0 a (nI b) := ⟨_, rfl⟩
  refine j_iast cx (pc := 177) 0 0 0 rfl rfl rfl (by omega) (by decide) (Bs' := [lwB Y la V1]) (by rw [hV1]; rfl) dL_due_177 ?_
  refine j_iload cx (pc := 178) dL_due_178 0 rfl ?_
  refine j_iload_n cx (pc := 180) dL_due_180 4 rfl ?_
  refine j_icmp_ne cx (pc := 181) (tgt := 189) dL_due_181 (by decide) (fun c181_6 => ?_) (fun c181_6 => ?_)
  · skip
    refine j_iload cx (pc := 189) dL_due_189 0 rfl ?_
    subst hQ; exact j_iret cx hr (by subst hV1; simp only [CL_due3, if_neg c181_6]) (by subst hV1; simp only [CL_due3, if_neg c181_6]) hA dL_due_191
  · skip
    refine j_bipush cx (pc := 184) (v := (-5)) dL_due_184 (by decide) ?_
    refine j_goto cx (pc := 186) (tgt := 191) dL_due_186 (by decide) ?_
    subst hQ; exact j_iret cx hr (by subst hV1; simp only [CL_due3, if_pos c181_6]) (by subst hV1; simp only [CL_due3, if_pos c181_6]) hA dL_due_191
def CL_due4 (G : Nat → Nat → Int32) (a : Nat) (b : Nat) (v : Nat) : Int32 × (Nat → Nat → Int32) :=
  let V1 := (CL_builds G a)
  ((((G 0 11) + (G 0 12)) + (CL_fullOnes G)), V1)
set_option maxHeartbeats 4000000 in
set_option maxRecDepth 100000 in
theorem c_L_due4 (l : Launch) (D : va_G) (Y : Nat → ClassId) (la : Nat → Nat) (G : Nat → Nat → Int32) (a : Nat) (b : Nat) (v : Nat) (sg0 : vp_in (G 0 3) 7) : CtI l yL_due wsL_due 1 25 D (tyL Y) [lwB Y la G] [.int (nI 4), .int (nI a), .int (nI b), .int (nI v), .ref (la 0), .ref (la 1), .ref (la 2), .ref (la 3), .ref (la 4), .ref (la 5), .ref (la 6), .ref (la 7), .ref (la 8)] (CL_due4 G a b v).1 [lwB Y la (CL_due4 G a b v).2] := by
  refine CtI.intro (own := RL) (cc := cL_due) (maxL := 17) rfl (by decide +kernel) rfl (Nat.le_of_ble_eq_true rfl) (fun p e s m args below meth c A Q hA hQ cx hr => ?_)
  refine j_aload cx (pc := 0) dL_due_0 4 rfl ?_
  refine j_iconst cx (pc := 2) (v := (nI 4)) dL_due_2 (by decide) ?_
  refine j_iald cx (pc := 3) 0 0 0 rfl rfl rfl (by decide) (by decide) dL_due_3 ?_
  refine j_istore cx (pc := 4) (lv' := [(13, .int (G 0 4)), (0, .int (nI 4)), (1, .int (nI a)), (2, .int (nI b)), (3, .int (nI v)), (4, .ref (la 0)), (5, .ref (la 1)), (6, .ref (la 2)), (7, .ref (la 3)), (8, .ref (la 4)), (9, .ref (la 5)), (10, .ref (la 6)), (11, .ref (la 7)), (12, .ref (la 8))]) dL_due_4 (by decide) rfl ?_
  refine j_iload_n cx (pc := 6) dL_due_6 1 rfl ?_
  refine j_iconst cx (pc := 7) (v := (nI 2)) dL_due_7 (by decide) ?_
  refine j_icmpN_ne cx (pc := 8) (by decide) (by decide) (tgt := 22) dL_due_8 (by decide) (fun c8_1 => ?_) (fun c8_1 => by exfalso; revert c8_1; decide)
  refine j_iload_n cx (pc := 22) dL_due_22 1 rfl ?_
  refine j_iconst cx (pc := 23) (v := (nI 3)) dL_due_23 (by decide) ?_
  refine j_icmpN_ne cx (pc := 24) (by decide) (by decide) (tgt := 34) dL_due_24 (by decide) (fun c24_2 => ?_) (fun c24_2 => by exfalso; revert c24_2; decide)
  refine j_iload_n cx (pc := 34) dL_due_34 1 rfl ?_
  refine j_iconst cx (pc := 35) (v := (nI 4)) dL_due_35 (by decide) ?_
  refine j_icmpN_ne cx (pc := 36) (by decide) (by decide) (tgt := 61) dL_due_36 (by decide) (fun c36_3 => by exfalso; revert c36_3; decide) (fun c36_3 => ?_)
  refine j_aload cx (pc := 39) dL_due_39 5 rfl ?_
  refine j_bipush cx (pc := 41) (v := (nI 11)) dL_due_41 (by decide) ?_
  refine j_iald cx (pc := 43) 0 0 0 rfl rfl rfl (by decide) (by decide) dL_due_43 ?_
  refine j_aload cx (pc := 44) dL_due_44 5 rfl ?_
  refine j_bipush cx (pc := 46) (v := (nI 12)) dL_due_46 (by decide) ?_
  refine j_iald cx (pc := 48) 0 0 0 rfl rfl rfl (by decide) (by decide) dL_due_48 ?_
  refine j_iadd cx (pc := 49) dL_due_49 ?_
  refine j_aload cx (pc := 50) dL_due_50 5 rfl ?_
  refine j_aload cx (pc := 52) dL_due_52 8 rfl ?_
  refine j_csi cx (pc := 54) 2 (c_L_fullOnes l D Y la G  sg0) gL_due_L_fullOnes rfl (by decide +kernel) rfl ⟨Nat.le_of_ble_eq_true rfl, Nat.le_of_ble_eq_true rfl⟩ [0] rfl (by decide) (Bs' := [lwB Y la G]) (putL_same rfl) rfl rfl (Nat.le_of_ble_eq_true rfl) dL_due_54 ⟨Nat.zero_le _, Nat.zero_le _⟩ ?_
  refine j_iadd cx (pc := 57) dL_due_57 ?_
  refine j_goto cx (pc := 58) (tgt := 65) dL_due_58 (by decide) ?_
  refine j_istore cx (pc := 65) (lv' := [(14, .int (((G 0 11) + (G 0 12)) + (CL_fullOnes G))), (13, .int (G 0 4)), (0, .int (nI 4)), (1, .int (nI a)), (2, .int (nI b)), (3, .int (nI v)), (4, .ref (la 0)), (5, .ref (la 1)), (6, .ref (la 2)), (7, .ref (la 3)), (8, .ref (la 4)), (9, .ref (la 5)), (10, .ref (la 6)), (11, .ref (la 7)), (12, .ref (la 8))]) dL_due_65 (by decide) rfl ?_
  refine j_iload_n cx (pc := 67) dL_due_67 2 rfl ?_
  refine j_ifN_ne cx (pc := 68) (by decide) (tgt := 140) dL_due_68 (by decide) (fun c68_4 => ?_) (fun c68_4 => by exfalso; revert c68_4; decide)
  refine j_iload_n cx (pc := 140) dL_due_140 2 rfl ?_
  refine j_iconst cx (pc := 141) (v := (nI 2)) dL_due_141 (by decide) ?_
  refine j_icmpN_ne cx (pc := 142) (by decide) (by decide) (tgt := 168) dL_due_142 (by decide) (fun c142_5 => ?_) (fun c142_5 => by exfalso; revert c142_5; decide)
  refine j_iload_n cx (pc := 168) dL_due_168 2 rfl ?_
  refine j_iconst cx (pc := 169) (v := (nI 3)) dL_due_169 (by decide) ?_
  refine j_icmpN_ne cx (pc := 170) (by decide) (by decide) (tgt := 192) dL_due_170 (by decide) (fun c170_6 => ?_) (fun c170_6 => by exfalso; revert c170_6; decide)
  refine j_iload_n cx (pc := 192) dL_due_192 2 rfl ?_
  refine j_iconst cx (pc := 193) (v := (nI 4)) dL_due_193 (by decide) ?_
  refine j_icmpN_ne cx (pc := 194) (by decide) (by decide) (tgt := 212) dL_due_194 (by decide) (fun c194_7 => by exfalso; revert c194_7; decide) (fun c194_7 => ?_)
  refine j_iload_n cx (pc := 197) dL_due_197 3 rfl ?_
  refine j_aload cx (pc := 198) dL_due_198 6 rfl ?_
  refine j_aload cx (pc := 200) dL_due_200 7 rfl ?_
  refine j_aload cx (pc := 202) dL_due_202 8 rfl ?_
  refine j_aload cx (pc := 204) dL_due_204 9 rfl ?_
  obtain ⟨V1, hV1⟩ : ∃ z, z = (CL_builds G a) := ⟨_, rfl⟩
  refine j_csv cx (pc := 206) 5 (c_L_builds l D Y la G a ) gL_due_L_builds rfl (by decide +kernel) rfl ⟨Nat.le_of_ble_eq_true rfl, Nat.le_of_ble_eq_true rfl⟩ [0] rfl (by decide) (Bs' := [lwB Y la V1]) (by rw [hV1]; rfl) A1_lw rfl (Nat.le_of_ble_eq_true rfl) dL_due_206 ⟨Nat.zero_le _, Nat.zero_le _⟩ ?_
  refine j_iload cx (pc := 209) dL_due_209 0 rfl ?_
  subst hQ; exact j_iret cx hr (by subst hV1; rfl) (by subst hV1; rfl) hA dL_due_211
/-- what the law's rows keep to before a change arrives -/
def lqLB (G : Nat → Nat → Int32) : Prop := vp_in (G 0 10) 62 ∧ vp_in (G 0 9) 20 ∧ vp_in (G 0 3) 7 ∧ ∀ k, k < tN (G 0 10) → vp_in (G 7 k) 672 ∧ tN (G 7 k) / 96 ≤ tN (G 0 3)
theorem ar_or (G : Nat → Nat → Int32) (T : Int32) : ((CL_arrives G T).1 = nI 0 ∧ (CL_arrives G T).2 = G) ∨ (CL_arrives G T).1 = nI 1 := by
  unfold CL_arrives
  split
  · exact Or.inl ⟨rfl, rfl⟩
  · split
    · exact Or.inl ⟨rfl, rfl⟩
    · exact Or.inr rfl
def dueOK (T : Int32) : Nat → (Nat → Nat → Int32) → Prop
  | 0, G => lqLB G ∧ (CL_arrives G T).1 = nI 0
  | q + 1, G => lqLB G ∧ ((CL_arrives G T).1 = nI 0 ∨ dueOK T q (CL_arrives G T).2)
def dueLp (T : Int32) : Nat → (Nat → Nat → Int32) → Nat → Nat → Int32
  | 0, G => G
  | q + 1, G => if (CL_arrives G T).1 = nI 0 then G else dueLp T q (CL_arrives G T).2
theorem dueOK_lb {T : Int32} {q : Nat} {G : Nat → Nat → Int32} (h : dueOK T q G) : lqLB G := by
  cases q with
  | zero => exact h.1
  | succ q => exact h.1
def CL_due1 (G : Nat → Nat → Int32) (b : Nat) : Int32 × (Nat → Nat → Int32) :=
  let H := dueLp ((G 0 4) + (nI b)) 5000 G
  let V1 := up1 H 0 4 ((G 0 4) + (nI b))
  ((V1 0 5) - (G 0 5), V1)
set_option maxHeartbeats 4000000 in
set_option maxRecDepth 100000 in
theorem c_L_due1 (l : Launch) (D : va_G) (Y : Nat → ClassId) (la : Nat → Nat) (G : Nat → Nat → Int32) (a b v : Nat) (hok : dueOK ((G 0 4) + (nI b)) 5000 G) : CtI l yL_due wsL_due 5 147 D (tyL Y) [lwB Y la G] [.int (nI 1), .int (nI a), .int (nI b), .int (nI v), .ref (la 0), .ref (la 1), .ref (la 2), .ref (la 3), .ref (la 4), .ref (la 5), .ref (la 6), .ref (la 7), .ref (la 8)] (CL_due1 G b).1 [lwB Y la (CL_due1 G b).2] := by
  refine CtI.intro (own := RL) (cc := cL_due) (maxL := 17) rfl (by decide +kernel) rfl (Nat.le_of_ble_eq_true rfl) (fun p e s m args below meth c A Q hA hQ cx hr => ?_)
  obtain ⟨R1, hR1⟩ : ∃ z, (CL_due1 G b).1 = z := ⟨_, rfl⟩
  obtain ⟨R0, hR0⟩ : ∃ z, (CL_due1 G b).2 = z := ⟨_, rfl⟩
  rw [hR1, hR0] at hQ
  have K280 : ∀ H : Nat → Nat → Int32, dueLp ((G 0 4) + (nI b)) 5000 G = H → J p l e { frames := 5, cells := 0, slots := 0, locals := 147 } s m args below meth c 17 D A 0 0 Q [lwB Y la H] 280 [(16, .int (nI 0)), (15, .int ((G 0 4) + (nI b))), (14, .int (G 0 5)), (13, .int (G 0 4)), (0, .int (nI 1)), (1, .int (nI a)), (2, .int (nI b)), (3, .int (nI v)), (4, .ref (la 0)), (5, .ref (la 1)), (6, .ref (la 2)), (7, .ref (la 3)), (8, .ref (la 4)), (9, .ref (la 5)), (10, .ref (la 6)), (11, .ref (la 7)), (12, .ref (la 8))] [] := by
    intro H hH
    refine j_aload cx (pc := 280) dL_due_280 8 rfl ?_
    refine j_iconst cx (pc := 282) (v := (nI 4)) dL_due_282 (by decide) ?_
    refine j_iload_n cx (pc := 283) dL_due_283 4 rfl ?_
    refine j_iconst cx (pc := 284) (v := (nI 1)) dL_due_284 (by decide) ?_
    refine j_icmpN_ne cx (pc := 285) (by decide) (by decide) (tgt := 293) dL_due_285 (by decide) (fun c285_1 => by exfalso; revert c285_1; decide) (fun c285_1 => ?_)
    refine j_iload cx (pc := 288) dL_due_288 1 rfl ?_
    refine j_goto cx (pc := 290) (tgt := 297) dL_due_290 (by decide) ?_
    obtain ⟨V1, hV1⟩ : ∃ z, z = up1 H 0 4 ((G 0 4) + (nI b)) := ⟨_, rfl⟩
    refine j_iast cx (pc := 297) 0 0 0 rfl rfl rfl (by decide) (by decide) (Bs' := [lwB Y la V1]) (by rw [hV1]; rfl) dL_due_297 ?_
    refine j_iload_n cx (pc := 298) dL_due_298 4 rfl ?_
    refine j_iconst cx (pc := 299) (v := (nI 1)) dL_due_299 (by decide) ?_
    refine j_icmpN_ne cx (pc := 300) (by decide) (by decide) (tgt := 313) dL_due_300 (by decide) (fun c300_2 => by exfalso; revert c300_2; decide) (fun c300_2 => ?_)
    refine j_aload cx (pc := 303) dL_due_303 8 rfl ?_
    refine j_iconst cx (pc := 305) (v := (nI 5)) dL_due_305 (by decide) ?_
    refine j_iald cx (pc := 306) 0 0 0 rfl rfl rfl (by decide) (by decide) dL_due_306 ?_
    refine j_iload cx (pc := 307) dL_due_307 2 rfl ?_
    refine j_isub cx (pc := 309) dL_due_309 ?_
    refine j_goto cx (pc := 310) (tgt := 320) dL_due_310 (by decide) ?_
    subst hQ; exact j_iret cx hr (by subst hV1; rw [← hR1, ← hH]; simp only [CL_due1]) (by subst hV1; rw [← hR0, ← hH]; simp only [CL_due1]) hA dL_due_320
  have lpd : ∀ (q : Nat) (G1 : Nat → Nat → Int32), dueOK ((G 0 4) + (nI b)) q G1 → dueLp ((G 0 4) + (nI b)) q G1 = dueLp ((G 0 4) + (nI b)) 5000 G → J p l e { frames := 5, cells := 0, slots := 0, locals := 147 } s m args below meth c 17 D A 0 0 Q [lwB Y la G1] 247 [(16, .int (nI 1)), (15, .int ((G 0 4) + (nI b))), (14, .int (G 0 5)), (13, .int (G 0 4)), (0, .int (nI 1)), (1, .int (nI a)), (2, .int (nI b)), (3, .int (nI v)), (4, .ref (la 0)), (5, .ref (la 1)), (6, .ref (la 2)), (7, .ref (la 3)), (8, .ref (la 4)), (9, .ref (la 5)), (10, .ref (la 6)), (11, .ref (la 7)), (12, .ref (la 8))] [] := by
    have one : ∀ (G1 : Nat → Nat → Int32), lqLB G1 → (J p l e { frames := 5, cells := 0, slots := 0, locals := 147 } s m args below meth c 17 D A 0 0 Q [lwB Y la (CL_arrives G1 ((G 0 4) + (nI b))).2] 247 [(16, .int ((CL_arrives G1 ((G 0 4) + (nI b))).1)), (15, .int ((G 0 4) + (nI b))), (14, .int (G 0 5)), (13, .int (G 0 4)), (0, .int (nI 1)), (1, .int (nI a)), (2, .int (nI b)), (3, .int (nI v)), (4, .ref (la 0)), (5, .ref (la 1)), (6, .ref (la 2)), (7, .ref (la 3)), (8, .ref (la 4)), (9, .ref (la 5)), (10, .ref (la 6)), (11, .ref (la 7)), (12, .ref (la 8))] []) → J p l e { frames := 5, cells := 0, slots := 0, locals := 147 } s m args below meth c 17 D A 0 0 Q [lwB Y la G1] 247 [(16, .int (nI 1)), (15, .int ((G 0 4) + (nI b))), (14, .int (G 0 5)), (13, .int (G 0 4)), (0, .int (nI 1)), (1, .int (nI a)), (2, .int (nI b)), (3, .int (nI v)), (4, .ref (la 0)), (5, .ref (la 1)), (6, .ref (la 2)), (7, .ref (la 3)), (8, .ref (la 4)), (9, .ref (la 5)), (10, .ref (la 6)), (11, .ref (la 7)), (12, .ref (la 8))] [] := by
      intro G1 hlb kk
      obtain ⟨b1, b2, b3, b4⟩ := hlb
      refine j_iload cx (pc := 247) dL_due_247 0 rfl ?_
      refine j_ifN_eq cx (pc := 249) (by decide) (tgt := 280) dL_due_249 (by decide) (fun h => by exfalso; revert h; decide) (fun h => ?_)
      refine j_iload cx (pc := 252) dL_due_252 1 rfl ?_
      refine j_aload cx (pc := 254) dL_due_254 8 rfl ?_
      refine j_aload cx (pc := 256) dL_due_256 9 rfl ?_
      refine j_aload cx (pc := 258) dL_due_258 10 rfl ?_
      refine j_aload cx (pc := 260) dL_due_260 11 rfl ?_
      refine j_aload cx (pc := 262) dL_due_262 12 rfl ?_
      refine j_aload cx (pc := 264) dL_due_264 13 rfl ?_
      refine j_aload cx (pc := 266) dL_due_266 14 rfl ?_
      refine j_aload cx (pc := 268) dL_due_268 15 rfl ?_
      refine j_aload cx (pc := 270) dL_due_270 16 rfl ?_
      refine j_csi cx (pc := 272) 10 (c_L_arrives l D Y la G1 ((G 0 4) + (nI b)) b1 b2 b3 b4) gL_due_L_arrives rfl (by decide +kernel) rfl ⟨Nat.le_of_ble_eq_true rfl, Nat.le_of_ble_eq_true rfl⟩ [0] rfl (by decide) (Bs' := [lwB Y la (CL_arrives G1 ((G 0 4) + (nI b))).2]) rfl A1_lw rfl (Nat.le_of_ble_eq_true rfl) dL_due_272 ⟨Nat.zero_le _, Nat.zero_le _⟩ ?_
      refine j_istore cx (pc := 275) (lv' := [(16, .int ((CL_arrives G1 ((G 0 4) + (nI b))).1)), (15, .int ((G 0 4) + (nI b))), (14, .int (G 0 5)), (13, .int (G 0 4)), (0, .int (nI 1)), (1, .int (nI a)), (2, .int (nI b)), (3, .int (nI v)), (4, .ref (la 0)), (5, .ref (la 1)), (6, .ref (la 2)), (7, .ref (la 3)), (8, .ref (la 4)), (9, .ref (la 5)), (10, .ref (la 6)), (11, .ref (la 7)), (12, .ref (la 8))]) dL_due_275 (by decide) rfl ?_
      refine j_goto cx (pc := 277) (tgt := 247) dL_due_277 (by decide) ?_
      exact kk
    have stop : ∀ (G1 : Nat → Nat → Int32), (CL_arrives G1 ((G 0 4) + (nI b))).1 = nI 0 → (CL_arrives G1 ((G 0 4) + (nI b))).2 = G1 → G1 = dueLp ((G 0 4) + (nI b)) 5000 G → J p l e { frames := 5, cells := 0, slots := 0, locals := 147 } s m args below meth c 17 D A 0 0 Q [lwB Y la (CL_arrives G1 ((G 0 4) + (nI b))).2] 247 [(16, .int ((CL_arrives G1 ((G 0 4) + (nI b))).1)), (15, .int ((G 0 4) + (nI b))), (14, .int (G 0 5)), (13, .int (G 0 4)), (0, .int (nI 1)), (1, .int (nI a)), (2, .int (nI b)), (3, .int (nI v)), (4, .ref (la 0)), (5, .ref (la 1)), (6, .ref (la 2)), (7, .ref (la 3)), (8, .ref (la 4)), (9, .ref (la 5)), (10, .ref (la 6)), (11, .ref (la 7)), (12, .ref (la 8))] [] := by
      intro G1 h0 h2 h3
      rw [h0, h2]
      refine j_iload cx (pc := 247) dL_due_247 0 rfl ?_
      refine j_ifN_eq cx (pc := 249) (by decide) (tgt := 280) dL_due_249 (by decide) (fun _ => K280 G1 h3.symm) (fun h => absurd rfl h)
    intro q
    induction q with
    | zero =>
      intro G1 ho he
      have h2 : (CL_arrives G1 ((G 0 4) + (nI b))).2 = G1 := by rcases ar_or G1 ((G 0 4) + (nI b)) with h | h; exact h.2; rw [ho.2] at h; exact absurd h (by decide)
      exact one G1 ho.1 (stop G1 ho.2 h2 he)
    | succ q ih =>
      intro G1 ho he
      rcases ar_or G1 ((G 0 4) + (nI b)) with h | h
      · have e2 : dueLp ((G 0 4) + (nI b)) (q + 1) G1 = G1 := if_pos h.1
        exact one G1 ho.1 (stop G1 h.1 h.2 (by rw [← he, e2]))
      · have ne : ¬ (CL_arrives G1 ((G 0 4) + (nI b))).1 = nI 0 := by rw [h]; decide
        have e2 : dueLp ((G 0 4) + (nI b)) (q + 1) G1 = dueLp ((G 0 4) + (nI b)) q (CL_arrives G1 ((G 0 4) + (nI b))).2 := if_neg ne
        have ho2 := ho.2.resolve_left ne
        refine one G1 ho.1 ?_
        have k := ih _ ho2 (by rw [← e2]; exact he)
        rw [h]; exact k
  refine j_aload cx (pc := 0) dL_due_0 4 rfl ?_
  refine j_iconst cx (pc := 2) (v := (nI 4)) dL_due_2 (by decide) ?_
  refine j_iald cx (pc := 3) 0 0 0 rfl rfl rfl (by decide) (by decide) dL_due_3 ?_
  refine j_istore cx (pc := 4) (lv' := [(13, .int (G 0 4)), (0, .int (nI 1)), (1, .int (nI a)), (2, .int (nI b)), (3, .int (nI v)), (4, .ref (la 0)), (5, .ref (la 1)), (6, .ref (la 2)), (7, .ref (la 3)), (8, .ref (la 4)), (9, .ref (la 5)), (10, .ref (la 6)), (11, .ref (la 7)), (12, .ref (la 8))]) dL_due_4 (by decide) rfl ?_
  refine j_iload_n cx (pc := 6) dL_due_6 1 rfl ?_
  refine j_iconst cx (pc := 7) (v := (nI 2)) dL_due_7 (by decide) ?_
  refine j_icmpN_ne cx (pc := 8) (by decide) (by decide) (tgt := 22) dL_due_8 (by decide) (fun c8_1 => ?_) (fun c8_1 => by exfalso; revert c8_1; decide)
  refine j_iload_n cx (pc := 22) dL_due_22 1 rfl ?_
  refine j_iconst cx (pc := 23) (v := (nI 3)) dL_due_23 (by decide) ?_
  refine j_icmpN_ne cx (pc := 24) (by decide) (by decide) (tgt := 34) dL_due_24 (by decide) (fun c24_2 => ?_) (fun c24_2 => by exfalso; revert c24_2; decide)
  refine j_iload_n cx (pc := 34) dL_due_34 1 rfl ?_
  refine j_iconst cx (pc := 35) (v := (nI 4)) dL_due_35 (by decide) ?_
  refine j_icmpN_ne cx (pc := 36) (by decide) (by decide) (tgt := 61) dL_due_36 (by decide) (fun c36_3 => ?_) (fun c36_3 => by exfalso; revert c36_3; decide)
  refine j_aload cx (pc := 61) dL_due_61 5 rfl ?_
  refine j_iconst cx (pc := 63) (v := (nI 5)) dL_due_63 (by decide) ?_
  refine j_iald cx (pc := 64) 0 0 0 rfl rfl rfl (by decide) (by decide) dL_due_64 ?_
  refine j_istore cx (pc := 65) (lv' := [(14, .int (G 0 5)), (13, .int (G 0 4)), (0, .int (nI 1)), (1, .int (nI a)), (2, .int (nI b)), (3, .int (nI v)), (4, .ref (la 0)), (5, .ref (la 1)), (6, .ref (la 2)), (7, .ref (la 3)), (8, .ref (la 4)), (9, .ref (la 5)), (10, .ref (la 6)), (11, .ref (la 7)), (12, .ref (la 8))]) dL_due_65 (by decide) rfl ?_
  refine j_iload_n cx (pc := 67) dL_due_67 2 rfl ?_
  refine j_ifN_ne cx (pc := 68) (by decide) (tgt := 140) dL_due_68 (by decide) (fun c68_4 => ?_) (fun c68_4 => by exfalso; revert c68_4; decide)
  refine j_iload_n cx (pc := 140) dL_due_140 2 rfl ?_
  refine j_iconst cx (pc := 141) (v := (nI 2)) dL_due_141 (by decide) ?_
  refine j_icmpN_ne cx (pc := 142) (by decide) (by decide) (tgt := 168) dL_due_142 (by decide) (fun c142_5 => ?_) (fun c142_5 => by exfalso; revert c142_5; decide)
  refine j_iload_n cx (pc := 168) dL_due_168 2 rfl ?_
  refine j_iconst cx (pc := 169) (v := (nI 3)) dL_due_169 (by decide) ?_
  refine j_icmpN_ne cx (pc := 170) (by decide) (by decide) (tgt := 192) dL_due_170 (by decide) (fun c170_6 => ?_) (fun c170_6 => by exfalso; revert c170_6; decide)
  refine j_iload_n cx (pc := 192) dL_due_192 2 rfl ?_
  refine j_iconst cx (pc := 193) (v := (nI 4)) dL_due_193 (by decide) ?_
  refine j_icmpN_ne cx (pc := 194) (by decide) (by decide) (tgt := 212) dL_due_194 (by decide) (fun c194_7 => ?_) (fun c194_7 => by exfalso; revert c194_7; decide)
  refine j_iload_n cx (pc := 212) dL_due_212 2 rfl ?_
  refine j_iconst cx (pc := 213) (v := (nI 5)) dL_due_213 (by decide) ?_
  refine j_icmpN_ne cx (pc := 214) (by decide) (by decide) (tgt := 228) dL_due_214 (by decide) (fun c214_8 => ?_) (fun c214_8 => by exfalso; revert c214_8; decide)
  refine j_iload_n cx (pc := 228) dL_due_228 2 rfl ?_
  refine j_iconst cx (pc := 229) (v := (nI 1)) dL_due_229 (by decide) ?_
  refine j_icmpN_ne cx (pc := 230) (by decide) (by decide) (tgt := 240) dL_due_230 (by decide) (fun c230_9 => by exfalso; revert c230_9; decide) (fun c230_9 => ?_)
  refine j_iload cx (pc := 233) dL_due_233 1 rfl ?_
  refine j_iload_n cx (pc := 235) dL_due_235 4 rfl ?_
  refine j_iadd cx (pc := 236) dL_due_236 ?_
  refine j_goto cx (pc := 237) (tgt := 242) dL_due_237 (by decide) ?_
  refine j_istore cx (pc := 242) (lv' := [(15, .int ((G 0 4) + (nI b))), (14, .int (G 0 5)), (13, .int (G 0 4)), (0, .int (nI 1)), (1, .int (nI a)), (2, .int (nI b)), (3, .int (nI v)), (4, .ref (la 0)), (5, .ref (la 1)), (6, .ref (la 2)), (7, .ref (la 3)), (8, .ref (la 4)), (9, .ref (la 5)), (10, .ref (la 6)), (11, .ref (la 7)), (12, .ref (la 8))]) dL_due_242 (by decide) rfl ?_
  refine j_iconst cx (pc := 244) (v := (nI 1)) dL_due_244 (by decide) ?_
  refine j_istore cx (pc := 245) (lv' := [(16, .int (nI 1)), (15, .int ((G 0 4) + (nI b))), (14, .int (G 0 5)), (13, .int (G 0 4)), (0, .int (nI 1)), (1, .int (nI a)), (2, .int (nI b)), (3, .int (nI v)), (4, .ref (la 0)), (5, .ref (la 1)), (6, .ref (la 2)), (7, .ref (la 3)), (8, .ref (la 4)), (9, .ref (la 5)), (10, .ref (la 6)), (11, .ref (la 7)), (12, .ref (la 8))]) dL_due_245 (by decide) rfl ?_
  refine j_lvm (lv' := [(16, .int (nI 1)), (15, .int ((G 0 4) + (nI b))), (14, .int (G 0 5)), (13, .int (G 0 4)), (0, .int (nI 1)), (1, .int (nI a)), (2, .int (nI b)), (3, .int (nI v)), (4, .ref (la 0)), (5, .ref (la 1)), (6, .ref (la 2)), (7, .ref (la 3)), (8, .ref (la 4)), (9, .ref (la 5)), (10, .ref (la 6)), (11, .ref (la 7)), (12, .ref (la 8))]) (by intro z hz; simp only [List.mem_cons, List.not_mem_nil, or_false] at hz ⊢; rcases hz with rfl | rfl | rfl | rfl | rfl | rfl | rfl | rfl | rfl | rfl | rfl | rfl | rfl | rfl | rfl | rfl | rfl <;> simp) ?_
  exact lpd 5000 G hok rfl
def CL_due5 (G : Nat → Nat → Int32) (b : Nat) : Int32 × (Nat → Nat → Int32) :=
  if (G 0 10) = 0 then ((-5), G)
  else
    let H := dueLp (nI 1000000) 5000 G
    let V1 := up1 H 0 4 (H 0 4)
    ((V1 0 4) - (G 0 4), V1)
set_option maxHeartbeats 4000000 in
set_option maxRecDepth 100000 in
theorem c_L_due5 (l : Launch) (D : va_G) (Y : Nat → ClassId) (la : Nat → Nat) (G : Nat → Nat → Int32) (a b v : Nat) (hok : ¬ G 0 10 = 0 → dueOK (nI 1000000) 5000 G) : CtI l yL_due wsL_due 5 147 D (tyL Y) [lwB Y la G] [.int (nI 5), .int (nI a), .int (nI b), .int (nI v), .ref (la 0), .ref (la 1), .ref (la 2), .ref (la 3), .ref (la 4), .ref (la 5), .ref (la 6), .ref (la 7), .ref (la 8)] (CL_due5 G b).1 [lwB Y la (CL_due5 G b).2] := by
  refine CtI.intro (own := RL) (cc := cL_due) (maxL := 17) rfl (by decide +kernel) rfl (Nat.le_of_ble_eq_true rfl) (fun p e s m args below meth c A Q hA hQ cx hr => ?_)
  obtain ⟨R1, hR1⟩ : ∃ z, (CL_due5 G b).1 = z := ⟨_, rfl⟩
  obtain ⟨R0, hR0⟩ : ∃ z, (CL_due5 G b).2 = z := ⟨_, rfl⟩
  rw [hR1, hR0] at hQ
  have K280 : ∀ H : Nat → Nat → Int32, ¬ G 0 10 = 0 → dueLp (nI 1000000) 5000 G = H → J p l e { frames := 5, cells := 0, slots := 0, locals := 147 } s m args below meth c 17 D A 0 0 Q [lwB Y la H] 280 [(16, .int (nI 0)), (15, .int (nI 1000000)), (14, .int (G 0 5)), (13, .int (G 0 4)), (0, .int (nI 5)), (1, .int (nI a)), (2, .int (nI b)), (3, .int (nI v)), (4, .ref (la 0)), (5, .ref (la 1)), (6, .ref (la 2)), (7, .ref (la 3)), (8, .ref (la 4)), (9, .ref (la 5)), (10, .ref (la 6)), (11, .ref (la 7)), (12, .ref (la 8))] [] := by
    intro H hne hH
    refine j_aload cx (pc := 280) dL_due_280 8 rfl ?_
    refine j_iconst cx (pc := 282) (v := (nI 4)) dL_due_282 (by decide) ?_
    refine j_iload_n cx (pc := 283) dL_due_283 4 rfl ?_
    refine j_iconst cx (pc := 284) (v := (nI 1)) dL_due_284 (by decide) ?_
    refine j_icmpN_ne cx (pc := 285) (by decide) (by decide) (tgt := 293) dL_due_285 (by decide) (fun c285_1 => ?_) (fun c285_1 => by exfalso; revert c285_1; decide)
    refine j_aload cx (pc := 293) dL_due_293 8 rfl ?_
    refine j_iconst cx (pc := 295) (v := (nI 4)) dL_due_295 (by decide) ?_
    refine j_iald cx (pc := 296) 0 0 0 rfl rfl rfl (by decide) (by decide) dL_due_296 ?_
    obtain ⟨V1, hV1⟩ : ∃ z, z = up1 H 0 4 (H 0 4) := ⟨_, rfl⟩
    refine j_iast cx (pc := 297) 0 0 0 rfl rfl rfl (by decide) (by decide) (Bs' := [lwB Y la V1]) (by rw [hV1]; rfl) dL_due_297 ?_
    refine j_iload_n cx (pc := 298) dL_due_298 4 rfl ?_
    refine j_iconst cx (pc := 299) (v := (nI 1)) dL_due_299 (by decide) ?_
    refine j_icmpN_ne cx (pc := 300) (by decide) (by decide) (tgt := 313) dL_due_300 (by decide) (fun c300_2 => ?_) (fun c300_2 => by exfalso; revert c300_2; decide)
    refine j_aload cx (pc := 313) dL_due_313 8 rfl ?_
    refine j_iconst cx (pc := 315) (v := (nI 4)) dL_due_315 (by decide) ?_
    refine j_iald cx (pc := 316) 0 0 0 rfl rfl rfl (by decide) (by decide) dL_due_316 ?_
    refine j_iload cx (pc := 317) dL_due_317 3 rfl ?_
    refine j_isub cx (pc := 319) dL_due_319 ?_
    subst hQ; exact j_iret cx hr (by subst hV1; rw [← hR1, ← hH]; simp only [CL_due5, if_neg hne]) (by subst hV1; rw [← hR0, ← hH]; simp only [CL_due5, if_neg hne]) hA dL_due_320
  have KL : ¬ G 0 10 = 0 → J p l e { frames := 5, cells := 0, slots := 0, locals := 147 } s m args below meth c 17 D A 0 0 Q [lwB Y la G] 247 [(16, .int (nI 1)), (15, .int (nI 1000000)), (14, .int (G 0 5)), (13, .int (G 0 4)), (0, .int (nI 5)), (1, .int (nI a)), (2, .int (nI b)), (3, .int (nI v)), (4, .ref (la 0)), (5, .ref (la 1)), (6, .ref (la 2)), (7, .ref (la 3)), (8, .ref (la 4)), (9, .ref (la 5)), (10, .ref (la 6)), (11, .ref (la 7)), (12, .ref (la 8))] [] := by
    intro hne
    have hok := hok hne
    have lpd : ∀ (q : Nat) (G1 : Nat → Nat → Int32), dueOK (nI 1000000) q G1 → dueLp (nI 1000000) q G1 = dueLp (nI 1000000) 5000 G → J p l e { frames := 5, cells := 0, slots := 0, locals := 147 } s m args below meth c 17 D A 0 0 Q [lwB Y la G1] 247 [(16, .int (nI 1)), (15, .int (nI 1000000)), (14, .int (G 0 5)), (13, .int (G 0 4)), (0, .int (nI 5)), (1, .int (nI a)), (2, .int (nI b)), (3, .int (nI v)), (4, .ref (la 0)), (5, .ref (la 1)), (6, .ref (la 2)), (7, .ref (la 3)), (8, .ref (la 4)), (9, .ref (la 5)), (10, .ref (la 6)), (11, .ref (la 7)), (12, .ref (la 8))] [] := by
      have one : ∀ (G1 : Nat → Nat → Int32), lqLB G1 → (J p l e { frames := 5, cells := 0, slots := 0, locals := 147 } s m args below meth c 17 D A 0 0 Q [lwB Y la (CL_arrives G1 (nI 1000000)).2] 247 [(16, .int ((CL_arrives G1 (nI 1000000)).1)), (15, .int (nI 1000000)), (14, .int (G 0 5)), (13, .int (G 0 4)), (0, .int (nI 5)), (1, .int (nI a)), (2, .int (nI b)), (3, .int (nI v)), (4, .ref (la 0)), (5, .ref (la 1)), (6, .ref (la 2)), (7, .ref (la 3)), (8, .ref (la 4)), (9, .ref (la 5)), (10, .ref (la 6)), (11, .ref (la 7)), (12, .ref (la 8))] []) → J p l e { frames := 5, cells := 0, slots := 0, locals := 147 } s m args below meth c 17 D A 0 0 Q [lwB Y la G1] 247 [(16, .int (nI 1)), (15, .int (nI 1000000)), (14, .int (G 0 5)), (13, .int (G 0 4)), (0, .int (nI 5)), (1, .int (nI a)), (2, .int (nI b)), (3, .int (nI v)), (4, .ref (la 0)), (5, .ref (la 1)), (6, .ref (la 2)), (7, .ref (la 3)), (8, .ref (la 4)), (9, .ref (la 5)), (10, .ref (la 6)), (11, .ref (la 7)), (12, .ref (la 8))] [] := by
        intro G1 hlb kk
        obtain ⟨b1, b2, b3, b4⟩ := hlb
        refine j_iload cx (pc := 247) dL_due_247 0 rfl ?_
        refine j_ifN_eq cx (pc := 249) (by decide) (tgt := 280) dL_due_249 (by decide) (fun h => by exfalso; revert h; decide) (fun h => ?_)
        refine j_iload cx (pc := 252) dL_due_252 1 rfl ?_
        refine j_aload cx (pc := 254) dL_due_254 8 rfl ?_
        refine j_aload cx (pc := 256) dL_due_256 9 rfl ?_
        refine j_aload cx (pc := 258) dL_due_258 10 rfl ?_
        refine j_aload cx (pc := 260) dL_due_260 11 rfl ?_
        refine j_aload cx (pc := 262) dL_due_262 12 rfl ?_
        refine j_aload cx (pc := 264) dL_due_264 13 rfl ?_
        refine j_aload cx (pc := 266) dL_due_266 14 rfl ?_
        refine j_aload cx (pc := 268) dL_due_268 15 rfl ?_
        refine j_aload cx (pc := 270) dL_due_270 16 rfl ?_
        refine j_csi cx (pc := 272) 10 (c_L_arrives l D Y la G1 (nI 1000000) b1 b2 b3 b4) gL_due_L_arrives rfl (by decide +kernel) rfl ⟨Nat.le_of_ble_eq_true rfl, Nat.le_of_ble_eq_true rfl⟩ [0] rfl (by decide) (Bs' := [lwB Y la (CL_arrives G1 (nI 1000000)).2]) rfl A1_lw rfl (Nat.le_of_ble_eq_true rfl) dL_due_272 ⟨Nat.zero_le _, Nat.zero_le _⟩ ?_
        refine j_istore cx (pc := 275) (lv' := [(16, .int ((CL_arrives G1 (nI 1000000)).1)), (15, .int (nI 1000000)), (14, .int (G 0 5)), (13, .int (G 0 4)), (0, .int (nI 5)), (1, .int (nI a)), (2, .int (nI b)), (3, .int (nI v)), (4, .ref (la 0)), (5, .ref (la 1)), (6, .ref (la 2)), (7, .ref (la 3)), (8, .ref (la 4)), (9, .ref (la 5)), (10, .ref (la 6)), (11, .ref (la 7)), (12, .ref (la 8))]) dL_due_275 (by decide) rfl ?_
        refine j_goto cx (pc := 277) (tgt := 247) dL_due_277 (by decide) ?_
        exact kk
      have stop : ∀ (G1 : Nat → Nat → Int32), (CL_arrives G1 (nI 1000000)).1 = nI 0 → (CL_arrives G1 (nI 1000000)).2 = G1 → G1 = dueLp (nI 1000000) 5000 G → J p l e { frames := 5, cells := 0, slots := 0, locals := 147 } s m args below meth c 17 D A 0 0 Q [lwB Y la (CL_arrives G1 (nI 1000000)).2] 247 [(16, .int ((CL_arrives G1 (nI 1000000)).1)), (15, .int (nI 1000000)), (14, .int (G 0 5)), (13, .int (G 0 4)), (0, .int (nI 5)), (1, .int (nI a)), (2, .int (nI b)), (3, .int (nI v)), (4, .ref (la 0)), (5, .ref (la 1)), (6, .ref (la 2)), (7, .ref (la 3)), (8, .ref (la 4)), (9, .ref (la 5)), (10, .ref (la 6)), (11, .ref (la 7)), (12, .ref (la 8))] [] := by
        intro G1 h0 h2 h3
        rw [h0, h2]
        refine j_iload cx (pc := 247) dL_due_247 0 rfl ?_
        refine j_ifN_eq cx (pc := 249) (by decide) (tgt := 280) dL_due_249 (by decide) (fun _ => K280 G1 hne h3.symm) (fun h => absurd rfl h)
      intro q
      induction q with
      | zero =>
        intro G1 ho he
        have h2 : (CL_arrives G1 (nI 1000000)).2 = G1 := by rcases ar_or G1 (nI 1000000) with h | h; exact h.2; rw [ho.2] at h; exact absurd h (by decide)
        exact one G1 ho.1 (stop G1 ho.2 h2 he)
      | succ q ih =>
        intro G1 ho he
        rcases ar_or G1 (nI 1000000) with h | h
        · have e2 : dueLp (nI 1000000) (q + 1) G1 = G1 := if_pos h.1
          exact one G1 ho.1 (stop G1 h.1 h.2 (by rw [← he, e2]))
        · have ne : ¬ (CL_arrives G1 (nI 1000000)).1 = nI 0 := by rw [h]; decide
          have e2 : dueLp (nI 1000000) (q + 1) G1 = dueLp (nI 1000000) q (CL_arrives G1 (nI 1000000)).2 := if_neg ne
          have ho2 := ho.2.resolve_left ne
          refine one G1 ho.1 ?_
          have k := ih _ ho2 (by rw [← e2]; exact he)
          rw [h]; exact k
    exact lpd 5000 G hok rfl
  refine j_aload cx (pc := 0) dL_due_0 4 rfl ?_
  refine j_iconst cx (pc := 2) (v := (nI 4)) dL_due_2 (by decide) ?_
  refine j_iald cx (pc := 3) 0 0 0 rfl rfl rfl (by decide) (by decide) dL_due_3 ?_
  refine j_istore cx (pc := 4) (lv' := [(13, .int (G 0 4)), (0, .int (nI 5)), (1, .int (nI a)), (2, .int (nI b)), (3, .int (nI v)), (4, .ref (la 0)), (5, .ref (la 1)), (6, .ref (la 2)), (7, .ref (la 3)), (8, .ref (la 4)), (9, .ref (la 5)), (10, .ref (la 6)), (11, .ref (la 7)), (12, .ref (la 8))]) dL_due_4 (by decide) rfl ?_
  refine j_iload_n cx (pc := 6) dL_due_6 1 rfl ?_
  refine j_iconst cx (pc := 7) (v := (nI 2)) dL_due_7 (by decide) ?_
  refine j_icmpN_ne cx (pc := 8) (by decide) (by decide) (tgt := 22) dL_due_8 (by decide) (fun c8_1 => ?_) (fun c8_1 => by exfalso; revert c8_1; decide)
  refine j_iload_n cx (pc := 22) dL_due_22 1 rfl ?_
  refine j_iconst cx (pc := 23) (v := (nI 3)) dL_due_23 (by decide) ?_
  refine j_icmpN_ne cx (pc := 24) (by decide) (by decide) (tgt := 34) dL_due_24 (by decide) (fun c24_2 => ?_) (fun c24_2 => by exfalso; revert c24_2; decide)
  refine j_iload_n cx (pc := 34) dL_due_34 1 rfl ?_
  refine j_iconst cx (pc := 35) (v := (nI 4)) dL_due_35 (by decide) ?_
  refine j_icmpN_ne cx (pc := 36) (by decide) (by decide) (tgt := 61) dL_due_36 (by decide) (fun c36_3 => ?_) (fun c36_3 => by exfalso; revert c36_3; decide)
  refine j_aload cx (pc := 61) dL_due_61 5 rfl ?_
  refine j_iconst cx (pc := 63) (v := (nI 5)) dL_due_63 (by decide) ?_
  refine j_iald cx (pc := 64) 0 0 0 rfl rfl rfl (by decide) (by decide) dL_due_64 ?_
  refine j_istore cx (pc := 65) (lv' := [(14, .int (G 0 5)), (13, .int (G 0 4)), (0, .int (nI 5)), (1, .int (nI a)), (2, .int (nI b)), (3, .int (nI v)), (4, .ref (la 0)), (5, .ref (la 1)), (6, .ref (la 2)), (7, .ref (la 3)), (8, .ref (la 4)), (9, .ref (la 5)), (10, .ref (la 6)), (11, .ref (la 7)), (12, .ref (la 8))]) dL_due_65 (by decide) rfl ?_
  refine j_iload_n cx (pc := 67) dL_due_67 2 rfl ?_
  refine j_ifN_ne cx (pc := 68) (by decide) (tgt := 140) dL_due_68 (by decide) (fun c68_4 => ?_) (fun c68_4 => by exfalso; revert c68_4; decide)
  refine j_iload_n cx (pc := 140) dL_due_140 2 rfl ?_
  refine j_iconst cx (pc := 141) (v := (nI 2)) dL_due_141 (by decide) ?_
  refine j_icmpN_ne cx (pc := 142) (by decide) (by decide) (tgt := 168) dL_due_142 (by decide) (fun c142_5 => ?_) (fun c142_5 => by exfalso; revert c142_5; decide)
  refine j_iload_n cx (pc := 168) dL_due_168 2 rfl ?_
  refine j_iconst cx (pc := 169) (v := (nI 3)) dL_due_169 (by decide) ?_
  refine j_icmpN_ne cx (pc := 170) (by decide) (by decide) (tgt := 192) dL_due_170 (by decide) (fun c170_6 => ?_) (fun c170_6 => by exfalso; revert c170_6; decide)
  refine j_iload_n cx (pc := 192) dL_due_192 2 rfl ?_
  refine j_iconst cx (pc := 193) (v := (nI 4)) dL_due_193 (by decide) ?_
  refine j_icmpN_ne cx (pc := 194) (by decide) (by decide) (tgt := 212) dL_due_194 (by decide) (fun c194_7 => ?_) (fun c194_7 => by exfalso; revert c194_7; decide)
  refine j_iload_n cx (pc := 212) dL_due_212 2 rfl ?_
  refine j_iconst cx (pc := 213) (v := (nI 5)) dL_due_213 (by decide) ?_
  refine j_icmpN_ne cx (pc := 214) (by decide) (by decide) (tgt := 228) dL_due_214 (by decide) (fun c214_8 => by exfalso; revert c214_8; decide) (fun c214_8 => ?_)
  refine j_aload cx (pc := 217) dL_due_217 6 rfl ?_
  refine j_bipush cx (pc := 219) (v := (nI 10)) dL_due_219 (by decide) ?_
  refine j_iald cx (pc := 221) 0 0 0 rfl rfl rfl (by decide) (by decide) dL_due_221 ?_
  refine j_if_ne cx (pc := 222) (tgt := 228) dL_due_222 (by decide) (fun c222_9 => ?_) (fun c222_9 => ?_)
  · skip
    refine j_iload_n cx (pc := 228) dL_due_228 2 rfl ?_
    refine j_iconst cx (pc := 229) (v := (nI 1)) dL_due_229 (by decide) ?_
    refine j_icmpN_ne cx (pc := 230) (by decide) (by decide) (tgt := 240) dL_due_230 (by decide) (fun c230_10 => ?_) (fun c230_10 => by exfalso; revert c230_10; decide)
    refine j_ldc cx (pc := 240) (v := (nI 1000000)) (show Cond.constant RL 93 (1000000) ∈ wsL_due from by decide +kernel) dL_due_240 ?_
    refine j_istore cx (pc := 242) (lv' := [(15, .int (nI 1000000)), (14, .int (G 0 5)), (13, .int (G 0 4)), (0, .int (nI 5)), (1, .int (nI a)), (2, .int (nI b)), (3, .int (nI v)), (4, .ref (la 0)), (5, .ref (la 1)), (6, .ref (la 2)), (7, .ref (la 3)), (8, .ref (la 4)), (9, .ref (la 5)), (10, .ref (la 6)), (11, .ref (la 7)), (12, .ref (la 8))]) dL_due_242 (by decide) rfl ?_
    refine j_iconst cx (pc := 244) (v := (nI 1)) dL_due_244 (by decide) ?_
    refine j_istore cx (pc := 245) (lv' := [(16, .int (nI 1)), (15, .int (nI 1000000)), (14, .int (G 0 5)), (13, .int (G 0 4)), (0, .int (nI 5)), (1, .int (nI a)), (2, .int (nI b)), (3, .int (nI v)), (4, .ref (la 0)), (5, .ref (la 1)), (6, .ref (la 2)), (7, .ref (la 3)), (8, .ref (la 4)), (9, .ref (la 5)), (10, .ref (la 6)), (11, .ref (la 7)), (12, .ref (la 8))]) dL_due_245 (by decide) rfl ?_
    refine j_lvm (lv' := [(16, .int (nI 1)), (15, .int (nI 1000000)), (14, .int (G 0 5)), (13, .int (G 0 4)), (0, .int (nI 5)), (1, .int (nI a)), (2, .int (nI b)), (3, .int (nI v)), (4, .ref (la 0)), (5, .ref (la 1)), (6, .ref (la 2)), (7, .ref (la 3)), (8, .ref (la 4)), (9, .ref (la 5)), (10, .ref (la 6)), (11, .ref (la 7)), (12, .ref (la 8))]) (by intro z hz; simp only [List.mem_cons, List.not_mem_nil, or_false] at hz ⊢; rcases hz with rfl | rfl | rfl | rfl | rfl | rfl | rfl | rfl | rfl | rfl | rfl | rfl | rfl | rfl | rfl | rfl | rfl <;> simp) ?_
    exact KL c222_9
  · skip
    refine j_bipush cx (pc := 225) (v := (-5)) dL_due_225 (by decide) ?_
    subst hQ; exact j_iret cx hr (by rw [← hR1]; simp only [CL_due5, if_pos c222_9]) (by rw [← hR0]; simp only [CL_due5, if_pos c222_9]) hA dL_due_227
