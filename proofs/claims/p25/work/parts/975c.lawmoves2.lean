def CL_notes (G : Nat → Nat → Int32)  : Nat → Nat → Int32 :=
  let V1 := up1 G 8 0 (G 2 ((6 * (tN (G 0 3))) + 5))
  let V2 := up1 V1 8 1 (V1 0 4)
  if (V2 5 0) = (V2 8 0) then
    let V17 := up1 V2 8 2 (nI 1)
    let V18 := setC V17 5 (shl (V17 5) 0 19)
    let V19 := up1 V18 0 9 ((V18 0 9) - (nI 1))
    let V20 := up1 V19 0 5 ((V19 0 5) + (nI 1))
    let V21 := up1 V20 0 6 ((V20 0 6) + (V20 8 2))
    let V22 := up1 V21 2 ((6 * (tN (G 0 3))) + 4) (nI 1)
    let V23 := (CL_makes V22 (tN (G 0 3)) 1 (nI 1) (V22 0 1))
    V23
  else
    let V3 := up1 V2 8 2 (nI 0)
    let V4 := setC V3 5 (shl (V3 5) 0 19)
    let V5 := up1 V4 0 9 ((V4 0 9) - (nI 1))
    let V6 := up1 V5 0 5 ((V5 0 5) + (nI 1))
    let V7 := up1 V6 0 6 ((V6 0 6) + (V6 8 2))
    let V8 := up1 V7 2 ((6 * (tN (G 0 3))) + 4) (nI 1)
    let V9 := (CL_makes V8 (tN (G 0 3)) 1 (nI 1) (V8 0 1))
    V9
set_option maxHeartbeats 4000000 in
set_option maxRecDepth 100000 in
theorem c_L_notes (l : Launch) (D : va_G) (Y : Nat → ClassId) (la : Nat → Nat) (G : Nat → Nat → Int32)  (cn0 : vp_in (G 0 10) 64) (sg0 : vp_in (G 0 3) 7) : CtV l yL_notes wsL_notes 1 27 D (tyL Y) [lwB Y la G] [.ref (la 0), .ref (la 1), .ref (la 2), .ref (la 5), .ref (la 6), .ref (la 7), .ref (la 8)] [lwB Y la (CL_notes G)] := by
  refine CtV.intro (own := RL) (cc := cL_notes) (maxL := 9) rfl (by decide +kernel) rfl (Nat.le_of_ble_eq_true rfl) (fun p e s m args below meth c A Q hA hQ cx hr => ?_)
  refine j_aload_n cx (pc := 0) dL_notes_0 0 rfl ?_
  refine j_iconst cx (pc := 1) (v := (nI 3)) dL_notes_1 (by decide) ?_
  refine j_iald cx (pc := 2) 0 0 0 rfl rfl rfl (by decide) (by decide) dL_notes_2 ?_
  have ls0 := inL sg0
  refine j_top (show (G 0 3) = (nI (tN (G 0 3))) from inN sg0) ?_
  refine j_istore cx (pc := 3) (lv' := [(7, .int (nI (tN (G 0 3)))), (0, .ref (la 0)), (1, .ref (la 1)), (2, .ref (la 2)), (3, .ref (la 5)), (4, .ref (la 6)), (5, .ref (la 7)), (6, .ref (la 8))]) dL_notes_3 (by decide) rfl ?_
  refine j_aload cx (pc := 5) dL_notes_5 7 rfl ?_
  refine j_iconst cx (pc := 7) (v := (nI 0)) dL_notes_7 (by decide) ?_
  refine j_aload_n cx (pc := 8) dL_notes_8 3 rfl ?_
  refine j_bipush cx (pc := 9) (v := (nI 6)) dL_notes_9 (by decide) ?_
  refine j_iload cx (pc := 11) dL_notes_11 0 rfl ?_
  refine j_imulN cx (pc := 13) dL_notes_13 ?_
  refine j_iconst cx (pc := 14) (v := (nI 5)) dL_notes_14 (by decide) ?_
  refine j_iaddN cx (pc := 15) dL_notes_15 ?_
  refine j_iald cx (pc := 16) 0 2 0 rfl rfl rfl (by omega) (by decide) dL_notes_16 ?_
  obtain ⟨V1, hV1⟩ : ∃ z, z = up1 G 8 0 (G 2 ((6 * (tN (G 0 3))) + 5)) := ⟨_, rfl⟩
  have cnV1 : vp_in (V1 0 10) 64 := by rw [hV1]; exact lvp_up (by omega) cn0
  have sgV1 : vp_in (V1 0 3) 7 := by rw [hV1]; exact lvp_up (by omega) sg0
  refine j_iast cx (pc := 17) 0 8 0 rfl rfl rfl (by decide) (by decide) (Bs' := [lwB Y la V1]) (by rw [hV1]; rfl) dL_notes_17 ?_
  refine j_aload cx (pc := 18) dL_notes_18 7 rfl ?_
  refine j_iconst cx (pc := 20) (v := (nI 1)) dL_notes_20 (by decide) ?_
  refine j_aload_n cx (pc := 21) dL_notes_21 1 rfl ?_
  refine j_iconst cx (pc := 22) (v := (nI 4)) dL_notes_22 (by decide) ?_
  refine j_iald cx (pc := 23) 0 0 0 rfl rfl rfl (by decide) (by decide) dL_notes_23 ?_
  obtain ⟨V2, hV2⟩ : ∃ z, z = up1 V1 8 1 (V1 0 4) := ⟨_, rfl⟩
  have cnV2 : vp_in (V2 0 10) 64 := by rw [hV2]; exact lvp_up (by omega) cnV1
  have sgV2 : vp_in (V2 0 3) 7 := by rw [hV2]; exact lvp_up (by omega) sgV1
  refine j_iast cx (pc := 24) 0 8 0 rfl rfl rfl (by decide) (by decide) (Bs' := [lwB Y la V2]) (by rw [hV2]; rfl) dL_notes_24 ?_
  refine j_aload cx (pc := 25) dL_notes_25 7 rfl ?_
  refine j_iconst cx (pc := 27) (v := (nI 2)) dL_notes_27 (by decide) ?_
  refine j_aload_n cx (pc := 28) dL_notes_28 4 rfl ?_
  refine j_iconst cx (pc := 29) (v := (nI 0)) dL_notes_29 (by decide) ?_
  refine j_iald cx (pc := 30) 0 5 0 rfl rfl rfl (by decide) (by decide) dL_notes_30 ?_
  refine j_aload cx (pc := 31) dL_notes_31 7 rfl ?_
  refine j_iconst cx (pc := 33) (v := (nI 0)) dL_notes_33 (by decide) ?_
  refine j_iald cx (pc := 34) 0 8 0 rfl rfl rfl (by decide) (by decide) dL_notes_34 ?_
  refine j_icmp_ne cx (pc := 35) (tgt := 42) dL_notes_35 (by decide) (fun c35_1 => ?_) (fun c35_1 => ?_)
  · skip
    refine j_iconst cx (pc := 42) (v := (nI 0)) dL_notes_42 (by decide) ?_
    obtain ⟨V3, hV3⟩ : ∃ z, z = up1 V2 8 2 (nI 0) := ⟨_, rfl⟩
    have cnV3 : vp_in (V3 0 10) 64 := by rw [hV3]; exact lvp_up (by omega) cnV2
    have sgV3 : vp_in (V3 0 3) 7 := by rw [hV3]; exact lvp_up (by omega) sgV2
    refine j_iast cx (pc := 43) 0 8 0 rfl rfl rfl (by decide) (by decide) (Bs' := [lwB Y la V3]) (by rw [hV3]; rfl) dL_notes_43 ?_
    refine j_iconst cx (pc := 44) (v := (nI 0)) dL_notes_44 (by decide) ?_
    refine j_istore cx (pc := 45) (lv' := [(8, .int (nI 0)), (7, .int (nI (tN (G 0 3)))), (0, .ref (la 0)), (1, .ref (la 1)), (2, .ref (la 2)), (3, .ref (la 5)), (4, .ref (la 6)), (5, .ref (la 7)), (6, .ref (la 8))]) dL_notes_45 (by decide) rfl ?_
    have lp2 : ∀ (n i : Nat), i + n = 19 → 0 ≤ i → J p l e { frames := 1, cells := 0, slots := 0, locals := 27 } s m args below meth c 9 D A 0 0 Q ([lwB Y la (setC V3 5 (shl (V3 5) 0 i))]) 47 [(8, .int (nI i)), (7, .int (nI (tN (G 0 3)))), (0, .ref (la 0)), (1, .ref (la 1)), (2, .ref (la 2)), (3, .ref (la 5)), (4, .ref (la 6)), (5, .ref (la 7)), (6, .ref (la 8))] [] := by
      intro n
      induction n with
      | zero =>
        intro i hi h0
        have hi2 : i = 19 := by omega
        subst hi2
        obtain ⟨V4, hV4⟩ : ∃ z, z = setC V3 5 (shl (V3 5) 0 19) := ⟨_, rfl⟩
        have cnV4 : vp_in (V4 0 10) 64 := by rw [hV4]; exact lvp_set (by decide) cnV3
        have sgV4 : vp_in (V4 0 3) 7 := by rw [hV4]; exact lvp_set (by decide) sgV3
        refine j_bs (Bs' := [lwB Y la V4]) (by rw [hV4]) ?_
        refine j_iload cx (pc := 47) dL_notes_47 0 rfl ?_
        refine j_bipush cx (pc := 49) (v := (nI 19)) dL_notes_49 (by decide) ?_
        refine j_icmpN_ge cx (pc := 51) (by decide) (by decide) (tgt := 70) dL_notes_51 (by decide) (fun c51_3 => ?_) (fun c51_3 => by exfalso; revert c51_3; decide)
        refine j_aload_n cx (pc := 70) dL_notes_70 2 rfl ?_
        refine j_bipush cx (pc := 71) (v := (nI 9)) dL_notes_71 (by decide) ?_
        refine j_dup2 cx (pc := 73) dL_notes_73 rfl rfl ?_
        refine j_iald cx (pc := 74) 0 0 0 rfl rfl rfl (by decide) (by decide) dL_notes_74 ?_
        refine j_iconst cx (pc := 75) (v := (nI 1)) dL_notes_75 (by decide) ?_
        refine j_isub cx (pc := 76) dL_notes_76 ?_
        obtain ⟨V5, hV5⟩ : ∃ z, z = up1 V4 0 9 ((V4 0 9) - (nI 1)) := ⟨_, rfl⟩
        have cnV5 : vp_in (V5 0 10) 64 := by rw [hV5]; exact lvp_up (by omega) cnV4
        have sgV5 : vp_in (V5 0 3) 7 := by rw [hV5]; exact lvp_up (by omega) sgV4
        refine j_iast cx (pc := 77) 0 0 0 rfl rfl rfl (by decide) (by decide) (Bs' := [lwB Y la V5]) (by rw [hV5]; rfl) dL_notes_77 ?_
        refine j_aload_n cx (pc := 78) dL_notes_78 2 rfl ?_
        refine j_iconst cx (pc := 79) (v := (nI 5)) dL_notes_79 (by decide) ?_
        refine j_dup2 cx (pc := 80) dL_notes_80 rfl rfl ?_
        refine j_iald cx (pc := 81) 0 0 0 rfl rfl rfl (by decide) (by decide) dL_notes_81 ?_
        refine j_iconst cx (pc := 82) (v := (nI 1)) dL_notes_82 (by decide) ?_
        refine j_iadd cx (pc := 83) dL_notes_83 ?_
        obtain ⟨V6, hV6⟩ : ∃ z, z = up1 V5 0 5 ((V5 0 5) + (nI 1)) := ⟨_, rfl⟩
        have cnV6 : vp_in (V6 0 10) 64 := by rw [hV6]; exact lvp_up (by omega) cnV5
        have sgV6 : vp_in (V6 0 3) 7 := by rw [hV6]; exact lvp_up (by omega) sgV5
        refine j_iast cx (pc := 84) 0 0 0 rfl rfl rfl (by decide) (by decide) (Bs' := [lwB Y la V6]) (by rw [hV6]; rfl) dL_notes_84 ?_
        refine j_aload_n cx (pc := 85) dL_notes_85 2 rfl ?_
        refine j_bipush cx (pc := 86) (v := (nI 6)) dL_notes_86 (by decide) ?_
        refine j_dup2 cx (pc := 88) dL_notes_88 rfl rfl ?_
        refine j_iald cx (pc := 89) 0 0 0 rfl rfl rfl (by decide) (by decide) dL_notes_89 ?_
        refine j_aload cx (pc := 90) dL_notes_90 8 rfl ?_
        refine j_iconst cx (pc := 92) (v := (nI 2)) dL_notes_92 (by decide) ?_
        refine j_iald cx (pc := 93) 0 8 0 rfl rfl rfl (by decide) (by decide) dL_notes_93 ?_
        refine j_iadd cx (pc := 94) dL_notes_94 ?_
        obtain ⟨V7, hV7⟩ : ∃ z, z = up1 V6 0 6 ((V6 0 6) + (V6 8 2)) := ⟨_, rfl⟩
        have cnV7 : vp_in (V7 0 10) 64 := by rw [hV7]; exact lvp_up (by omega) cnV6
        have sgV7 : vp_in (V7 0 3) 7 := by rw [hV7]; exact lvp_up (by omega) sgV6
        refine j_iast cx (pc := 95) 0 0 0 rfl rfl rfl (by decide) (by decide) (Bs' := [lwB Y la V7]) (by rw [hV7]; rfl) dL_notes_95 ?_
        refine j_aload_n cx (pc := 96) dL_notes_96 4 rfl ?_
        refine j_bipush cx (pc := 97) (v := (nI 6)) dL_notes_97 (by decide) ?_
        refine j_iload cx (pc := 99) dL_notes_99 1 rfl ?_
        refine j_imulN cx (pc := 101) dL_notes_101 ?_
        refine j_iconst cx (pc := 102) (v := (nI 4)) dL_notes_102 (by decide) ?_
        refine j_iaddN cx (pc := 103) dL_notes_103 ?_
        refine j_iconst cx (pc := 104) (v := (nI 1)) dL_notes_104 (by decide) ?_
        obtain ⟨V8, hV8⟩ : ∃ z, z = up1 V7 2 ((6 * (tN (G 0 3))) + 4) (nI 1) := ⟨_, rfl⟩
        have cnV8 : vp_in (V8 0 10) 64 := by rw [hV8]; exact lvp_up (by omega) cnV7
        have sgV8 : vp_in (V8 0 3) 7 := by rw [hV8]; exact lvp_up (by omega) sgV7
        refine j_iast cx (pc := 105) 0 2 0 rfl rfl rfl (by omega) (by decide) (Bs' := [lwB Y la V8]) (by rw [hV8]; rfl) dL_notes_105 ?_
        refine j_iload cx (pc := 106) dL_notes_106 1 rfl ?_
        refine j_iconst cx (pc := 108) (v := (nI 1)) dL_notes_108 (by decide) ?_
        refine j_iconst cx (pc := 109) (v := (nI 1)) dL_notes_109 (by decide) ?_
        refine j_aload_n cx (pc := 110) dL_notes_110 2 rfl ?_
        refine j_iconst cx (pc := 111) (v := (nI 1)) dL_notes_111 (by decide) ?_
        refine j_iald cx (pc := 112) 0 0 0 rfl rfl rfl (by decide) (by decide) dL_notes_112 ?_
        refine j_aload_n cx (pc := 113) dL_notes_113 2 rfl ?_
        refine j_aload_n cx (pc := 114) dL_notes_114 3 rfl ?_
        refine j_aload cx (pc := 115) dL_notes_115 6 rfl ?_
        refine j_aload cx (pc := 117) dL_notes_117 7 rfl ?_
        obtain ⟨V9, hV9⟩ : ∃ z, z = (CL_makes V8 (tN (G 0 3)) 1 (nI 1) (V8 0 1)) := ⟨_, rfl⟩
        have cnV9 : vp_in (V9 0 10) 65 := by rw [hV9]; exact (lf_makes_cn cnV8)
        have sgV9 : vp_in (V9 0 3) 7 := by rw [hV9]; exact (lf_makes_sg sgV8)
        refine j_csv cx (pc := 119) 8 (c_L_makes l D Y la V8 (tN (G 0 3)) 1 (nI 1) (V8 0 1) (vp_mono cnV8 (by decide)) (by omega) (by omega)) gL_notes_L_makes rfl (by decide +kernel) rfl ⟨Nat.le_of_ble_eq_true rfl, Nat.le_of_ble_eq_true rfl⟩ [0] rfl (by decide) (Bs' := [lwB Y la V9]) (by rw [hV9]; rfl) A1_lw rfl (Nat.le_of_ble_eq_true rfl) dL_notes_119 ⟨Nat.zero_le _, Nat.zero_le _⟩ ?_
        subst hQ; exact j_vret cx hr (by subst hV9; subst hV8; subst hV7; subst hV6; subst hV5; subst hV4; subst hV3; subst hV2; subst hV1; simp only [CL_notes, if_neg c35_1]) hA dL_notes_122
      | succ n ih =>
        intro i hi h0
        obtain ⟨V10, hV10⟩ : ∃ z, z = setC V3 5 (shl (V3 5) 0 i) := ⟨_, rfl⟩
        have cnV10 : vp_in (V10 0 10) 64 := by rw [hV10]; exact lvp_set (by decide) cnV3
        refine j_bs (Bs' := [lwB Y la V10]) (by rw [hV10]) ?_
        refine j_iload cx (pc := 47) dL_notes_47 0 rfl ?_
        refine j_bipush cx (pc := 49) (v := (nI 19)) dL_notes_49 (by decide) ?_
        refine j_icmpN_ge cx (pc := 51) (by omega) (by decide) (tgt := 70) dL_notes_51 (by decide) (fun c51_4 => ?_) (fun c51_4 => ?_)
        · skip
          refine j_aload_n cx (pc := 70) dL_notes_70 2 rfl ?_
          refine j_bipush cx (pc := 71) (v := (nI 9)) dL_notes_71 (by decide) ?_
          refine j_dup2 cx (pc := 73) dL_notes_73 rfl rfl ?_
          refine j_iald cx (pc := 74) 0 0 0 rfl rfl rfl (by decide) (by decide) dL_notes_74 ?_
          refine j_iconst cx (pc := 75) (v := (nI 1)) dL_notes_75 (by decide) ?_
          refine j_isub cx (pc := 76) dL_notes_76 ?_
          obtain ⟨V11, hV11⟩ : ∃ z, z = up1 V10 0 9 ((V10 0 9) - (nI 1)) := ⟨_, rfl⟩
          have cnV11 : vp_in (V11 0 10) 64 := by rw [hV11]; exact lvp_up (by omega) cnV10
          refine j_iast cx (pc := 77) 0 0 0 rfl rfl rfl (by decide) (by decide) (Bs' := [lwB Y la V11]) (by rw [hV11]; rfl) dL_notes_77 ?_
          refine j_aload_n cx (pc := 78) dL_notes_78 2 rfl ?_
          refine j_iconst cx (pc := 79) (v := (nI 5)) dL_notes_79 (by decide) ?_
          refine j_dup2 cx (pc := 80) dL_notes_80 rfl rfl ?_
          refine j_iald cx (pc := 81) 0 0 0 rfl rfl rfl (by decide) (by decide) dL_notes_81 ?_
          refine j_iconst cx (pc := 82) (v := (nI 1)) dL_notes_82 (by decide) ?_
          refine j_iadd cx (pc := 83) dL_notes_83 ?_
          obtain ⟨V12, hV12⟩ : ∃ z, z = up1 V11 0 5 ((V11 0 5) + (nI 1)) := ⟨_, rfl⟩
          have cnV12 : vp_in (V12 0 10) 64 := by rw [hV12]; exact lvp_up (by omega) cnV11
          refine j_iast cx (pc := 84) 0 0 0 rfl rfl rfl (by decide) (by decide) (Bs' := [lwB Y la V12]) (by rw [hV12]; rfl) dL_notes_84 ?_
          refine j_aload_n cx (pc := 85) dL_notes_85 2 rfl ?_
          refine j_bipush cx (pc := 86) (v := (nI 6)) dL_notes_86 (by decide) ?_
          refine j_dup2 cx (pc := 88) dL_notes_88 rfl rfl ?_
          refine j_iald cx (pc := 89) 0 0 0 rfl rfl rfl (by decide) (by decide) dL_notes_89 ?_
          refine j_aload cx (pc := 90) dL_notes_90 8 rfl ?_
          refine j_iconst cx (pc := 92) (v := (nI 2)) dL_notes_92 (by decide) ?_
          refine j_iald cx (pc := 93) 0 8 0 rfl rfl rfl (by decide) (by decide) dL_notes_93 ?_
          refine j_iadd cx (pc := 94) dL_notes_94 ?_
          obtain ⟨V13, hV13⟩ : ∃ z, z = up1 V12 0 6 ((V12 0 6) + (V12 8 2)) := ⟨_, rfl⟩
          have cnV13 : vp_in (V13 0 10) 64 := by rw [hV13]; exact lvp_up (by omega) cnV12
          refine j_iast cx (pc := 95) 0 0 0 rfl rfl rfl (by decide) (by decide) (Bs' := [lwB Y la V13]) (by rw [hV13]; rfl) dL_notes_95 ?_
          refine j_aload_n cx (pc := 96) dL_notes_96 4 rfl ?_
          refine j_bipush cx (pc := 97) (v := (nI 6)) dL_notes_97 (by decide) ?_
          refine j_iload cx (pc := 99) dL_notes_99 1 rfl ?_
          refine j_imulN cx (pc := 101) dL_notes_101 ?_
          refine j_iconst cx (pc := 102) (v := (nI 4)) dL_notes_102 (by decide) ?_
          refine j_iaddN cx (pc := 103) dL_notes_103 ?_
          refine j_iconst cx (pc := 104) (v := (nI 1)) dL_notes_104 (by decide) ?_
          obtain ⟨V14, hV14⟩ : ∃ z, z = up1 V13 2 ((6 * (tN (G 0 3))) + 4) (nI 1) := ⟨_, rfl⟩
          have cnV14 : vp_in (V14 0 10) 64 := by rw [hV14]; exact lvp_up (by omega) cnV13
          refine j_iast cx (pc := 105) 0 2 0 rfl rfl rfl (by omega) (by decide) (Bs' := [lwB Y la V14]) (by rw [hV14]; rfl) dL_notes_105 ?_
          refine j_iload cx (pc := 106) dL_notes_106 1 rfl ?_
          refine j_iconst cx (pc := 108) (v := (nI 1)) dL_notes_108 (by decide) ?_
          refine j_iconst cx (pc := 109) (v := (nI 1)) dL_notes_109 (by decide) ?_
          refine j_aload_n cx (pc := 110) dL_notes_110 2 rfl ?_
          refine j_iconst cx (pc := 111) (v := (nI 1)) dL_notes_111 (by decide) ?_
          refine j_iald cx (pc := 112) 0 0 0 rfl rfl rfl (by decide) (by decide) dL_notes_112 ?_
          refine j_aload_n cx (pc := 113) dL_notes_113 2 rfl ?_
          refine j_aload_n cx (pc := 114) dL_notes_114 3 rfl ?_
          refine j_aload cx (pc := 115) dL_notes_115 6 rfl ?_
          refine j_aload cx (pc := 117) dL_notes_117 7 rfl ?_
          obtain ⟨V15, hV15⟩ : ∃ z, z = (CL_makes V14 (tN (G 0 3)) 1 (nI 1) (V14 0 1)) := ⟨_, rfl⟩
          refine j_csv cx (pc := 119) 8 (c_L_makes l D Y la V14 (tN (G 0 3)) 1 (nI 1) (V14 0 1) (vp_mono cnV14 (by decide)) (by omega) (by omega)) gL_notes_L_makes rfl (by decide +kernel) rfl ⟨Nat.le_of_ble_eq_true rfl, Nat.le_of_ble_eq_true rfl⟩ [0] rfl (by decide) (Bs' := [lwB Y la V15]) (by rw [hV15]; rfl) A1_lw rfl (Nat.le_of_ble_eq_true rfl) dL_notes_119 ⟨Nat.zero_le _, Nat.zero_le _⟩ ?_
          obtain rfl : i = 19 := by omega
          subst hQ; exact j_vret cx hr (by subst hV15; subst hV14; subst hV13; subst hV12; subst hV11; subst hV10; subst hV3; subst hV2; subst hV1; simp only [CL_notes, if_neg c35_1, if_pos c51_4]) hA dL_notes_122
        · skip
          refine j_aload_n cx (pc := 54) dL_notes_54 5 rfl ?_
          refine j_iload cx (pc := 55) dL_notes_55 0 rfl ?_
          refine j_aload_n cx (pc := 57) dL_notes_57 5 rfl ?_
          refine j_iload cx (pc := 58) dL_notes_58 0 rfl ?_
          refine j_iconst cx (pc := 60) (v := (nI 1)) dL_notes_60 (by decide) ?_
          refine j_iaddN cx (pc := 61) dL_notes_61 ?_
          refine j_iald cx (pc := 62) 0 5 0 rfl rfl rfl (by omega) (by decide) dL_notes_62 ?_
          obtain ⟨V16, hV16⟩ : ∃ z, z = up1 V10 5 i (V10 5 (i + 1)) := ⟨_, rfl⟩
          refine j_iast cx (pc := 63) 0 5 0 rfl rfl rfl (by omega) (by decide) (Bs' := [lwB Y la V16]) (by rw [hV16]; rfl) dL_notes_63 ?_
          refine j_iinc cx (pc := 64) (v := (nI (i + 1))) (lv' := [(8, .int (nI (i + 1))), (7, .int (nI (tN (G 0 3)))), (0, .ref (la 0)), (1, .ref (la 1)), (2, .ref (la 2)), (3, .ref (la 5)), (4, .ref (la 6)), (5, .ref (la 7)), (6, .ref (la 8))]) dL_notes_64 0 rfl (show nI i + nI 1 = nI (i + 1) from nI_add _ _) (by decide) rfl ?_
          refine j_goto cx (pc := 67) (tgt := 47) dL_notes_67 (by decide) ?_
          refine j_lvm (lv' := [(8, .int (nI (i + 1))), (7, .int (nI (tN (G 0 3)))), (0, .ref (la 0)), (1, .ref (la 1)), (2, .ref (la 2)), (3, .ref (la 5)), (4, .ref (la 6)), (5, .ref (la 7)), (6, .ref (la 8))]) (by intro z hz; simp only [List.mem_cons, List.not_mem_nil, or_false] at hz ⊢; rcases hz with rfl | rfl | rfl | rfl | rfl | rfl | rfl | rfl | rfl <;> simp) ?_
          refine j_bs (Bs' := [lwB Y la (setC V3 5 (shl (V3 5) 0 (i + 1)))]) (by subst hV16; subst hV10; rw [(show up1 (setC V3 5 (shl (V3 5) 0 i)) 5 i (setC V3 5 (shl (V3 5) 0 i) 5 (i + 1)) = setC V3 5 (shl (V3 5) 0 (i + 1)) from by have := shl_s V3 5 0 i; simp only [Nat.zero_add] at this; exact this)]) ?_
          exact ih (i + 1) (by omega) (by omega)
    refine j_bs (Bs' := [lwB Y la (setC V3 5 (shl (V3 5) 0 0))]) (by rw [shl_0 V3 5 0]) ?_
    refine j_lvm (lv' := [(8, .int (nI 0)), (7, .int (nI (tN (G 0 3)))), (0, .ref (la 0)), (1, .ref (la 1)), (2, .ref (la 2)), (3, .ref (la 5)), (4, .ref (la 6)), (5, .ref (la 7)), (6, .ref (la 8))]) (by intro z hz; simp only [List.mem_cons, List.not_mem_nil, or_false] at hz ⊢; rcases hz with rfl | rfl | rfl | rfl | rfl | rfl | rfl | rfl | rfl <;> simp) ?_
    exact lp2 (19 - 0) 0 (by omega) (Nat.le_refl _)
  · skip
    refine j_iconst cx (pc := 38) (v := (nI 1)) dL_notes_38 (by decide) ?_
    refine j_goto cx (pc := 39) (tgt := 43) dL_notes_39 (by decide) ?_
    obtain ⟨V17, hV17⟩ : ∃ z, z = up1 V2 8 2 (nI 1) := ⟨_, rfl⟩
    have cnV17 : vp_in (V17 0 10) 64 := by rw [hV17]; exact lvp_up (by omega) cnV2
    have sgV17 : vp_in (V17 0 3) 7 := by rw [hV17]; exact lvp_up (by omega) sgV2
    refine j_iast cx (pc := 43) 0 8 0 rfl rfl rfl (by decide) (by decide) (Bs' := [lwB Y la V17]) (by rw [hV17]; rfl) dL_notes_43 ?_
    refine j_iconst cx (pc := 44) (v := (nI 0)) dL_notes_44 (by decide) ?_
    refine j_istore cx (pc := 45) (lv' := [(8, .int (nI 0)), (7, .int (nI (tN (G 0 3)))), (0, .ref (la 0)), (1, .ref (la 1)), (2, .ref (la 2)), (3, .ref (la 5)), (4, .ref (la 6)), (5, .ref (la 7)), (6, .ref (la 8))]) dL_notes_45 (by decide) rfl ?_
    have lp5 : ∀ (n i : Nat), i + n = 19 → 0 ≤ i → J p l e { frames := 1, cells := 0, slots := 0, locals := 27 } s m args below meth c 9 D A 0 0 Q ([lwB Y la (setC V17 5 (shl (V17 5) 0 i))]) 47 [(8, .int (nI i)), (7, .int (nI (tN (G 0 3)))), (0, .ref (la 0)), (1, .ref (la 1)), (2, .ref (la 2)), (3, .ref (la 5)), (4, .ref (la 6)), (5, .ref (la 7)), (6, .ref (la 8))] [] := by
      intro n
      induction n with
      | zero =>
        intro i hi h0
        have hi2 : i = 19 := by omega
        subst hi2
        obtain ⟨V18, hV18⟩ : ∃ z, z = setC V17 5 (shl (V17 5) 0 19) := ⟨_, rfl⟩
        have cnV18 : vp_in (V18 0 10) 64 := by rw [hV18]; exact lvp_set (by decide) cnV17
        have sgV18 : vp_in (V18 0 3) 7 := by rw [hV18]; exact lvp_set (by decide) sgV17
        refine j_bs (Bs' := [lwB Y la V18]) (by rw [hV18]) ?_
        refine j_iload cx (pc := 47) dL_notes_47 0 rfl ?_
        refine j_bipush cx (pc := 49) (v := (nI 19)) dL_notes_49 (by decide) ?_
        refine j_icmpN_ge cx (pc := 51) (by decide) (by decide) (tgt := 70) dL_notes_51 (by decide) (fun c51_6 => ?_) (fun c51_6 => by exfalso; revert c51_6; decide)
        refine j_aload_n cx (pc := 70) dL_notes_70 2 rfl ?_
        refine j_bipush cx (pc := 71) (v := (nI 9)) dL_notes_71 (by decide) ?_
        refine j_dup2 cx (pc := 73) dL_notes_73 rfl rfl ?_
        refine j_iald cx (pc := 74) 0 0 0 rfl rfl rfl (by decide) (by decide) dL_notes_74 ?_
        refine j_iconst cx (pc := 75) (v := (nI 1)) dL_notes_75 (by decide) ?_
        refine j_isub cx (pc := 76) dL_notes_76 ?_
        obtain ⟨V19, hV19⟩ : ∃ z, z = up1 V18 0 9 ((V18 0 9) - (nI 1)) := ⟨_, rfl⟩
        have cnV19 : vp_in (V19 0 10) 64 := by rw [hV19]; exact lvp_up (by omega) cnV18
        have sgV19 : vp_in (V19 0 3) 7 := by rw [hV19]; exact lvp_up (by omega) sgV18
        refine j_iast cx (pc := 77) 0 0 0 rfl rfl rfl (by decide) (by decide) (Bs' := [lwB Y la V19]) (by rw [hV19]; rfl) dL_notes_77 ?_
        refine j_aload_n cx (pc := 78) dL_notes_78 2 rfl ?_
        refine j_iconst cx (pc := 79) (v := (nI 5)) dL_notes_79 (by decide) ?_
        refine j_dup2 cx (pc := 80) dL_notes_80 rfl rfl ?_
        refine j_iald cx (pc := 81) 0 0 0 rfl rfl rfl (by decide) (by decide) dL_notes_81 ?_
        refine j_iconst cx (pc := 82) (v := (nI 1)) dL_notes_82 (by decide) ?_
        refine j_iadd cx (pc := 83) dL_notes_83 ?_
        obtain ⟨V20, hV20⟩ : ∃ z, z = up1 V19 0 5 ((V19 0 5) + (nI 1)) := ⟨_, rfl⟩
        have cnV20 : vp_in (V20 0 10) 64 := by rw [hV20]; exact lvp_up (by omega) cnV19
        have sgV20 : vp_in (V20 0 3) 7 := by rw [hV20]; exact lvp_up (by omega) sgV19
        refine j_iast cx (pc := 84) 0 0 0 rfl rfl rfl (by decide) (by decide) (Bs' := [lwB Y la V20]) (by rw [hV20]; rfl) dL_notes_84 ?_
        refine j_aload_n cx (pc := 85) dL_notes_85 2 rfl ?_
        refine j_bipush cx (pc := 86) (v := (nI 6)) dL_notes_86 (by decide) ?_
        refine j_dup2 cx (pc := 88) dL_notes_88 rfl rfl ?_
        refine j_iald cx (pc := 89) 0 0 0 rfl rfl rfl (by decide) (by decide) dL_notes_89 ?_
        refine j_aload cx (pc := 90) dL_notes_90 8 rfl ?_
        refine j_iconst cx (pc := 92) (v := (nI 2)) dL_notes_92 (by decide) ?_
        refine j_iald cx (pc := 93) 0 8 0 rfl rfl rfl (by decide) (by decide) dL_notes_93 ?_
        refine j_iadd cx (pc := 94) dL_notes_94 ?_
        obtain ⟨V21, hV21⟩ : ∃ z, z = up1 V20 0 6 ((V20 0 6) + (V20 8 2)) := ⟨_, rfl⟩
        have cnV21 : vp_in (V21 0 10) 64 := by rw [hV21]; exact lvp_up (by omega) cnV20
        have sgV21 : vp_in (V21 0 3) 7 := by rw [hV21]; exact lvp_up (by omega) sgV20
        refine j_iast cx (pc := 95) 0 0 0 rfl rfl rfl (by decide) (by decide) (Bs' := [lwB Y la V21]) (by rw [hV21]; rfl) dL_notes_95 ?_
        refine j_aload_n cx (pc := 96) dL_notes_96 4 rfl ?_
        refine j_bipush cx (pc := 97) (v := (nI 6)) dL_notes_97 (by decide) ?_
        refine j_iload cx (pc := 99) dL_notes_99 1 rfl ?_
        refine j_imulN cx (pc := 101) dL_notes_101 ?_
        refine j_iconst cx (pc := 102) (v := (nI 4)) dL_notes_102 (by decide) ?_
        refine j_iaddN cx (pc := 103) dL_notes_103 ?_
        refine j_iconst cx (pc := 104) (v := (nI 1)) dL_notes_104 (by decide) ?_
        obtain ⟨V22, hV22⟩ : ∃ z, z = up1 V21 2 ((6 * (tN (G 0 3))) + 4) (nI 1) := ⟨_, rfl⟩
        have cnV22 : vp_in (V22 0 10) 64 := by rw [hV22]; exact lvp_up (by omega) cnV21
        have sgV22 : vp_in (V22 0 3) 7 := by rw [hV22]; exact lvp_up (by omega) sgV21
        refine j_iast cx (pc := 105) 0 2 0 rfl rfl rfl (by omega) (by decide) (Bs' := [lwB Y la V22]) (by rw [hV22]; rfl) dL_notes_105 ?_
        refine j_iload cx (pc := 106) dL_notes_106 1 rfl ?_
        refine j_iconst cx (pc := 108) (v := (nI 1)) dL_notes_108 (by decide) ?_
        refine j_iconst cx (pc := 109) (v := (nI 1)) dL_notes_109 (by decide) ?_
        refine j_aload_n cx (pc := 110) dL_notes_110 2 rfl ?_
        refine j_iconst cx (pc := 111) (v := (nI 1)) dL_notes_111 (by decide) ?_
        refine j_iald cx (pc := 112) 0 0 0 rfl rfl rfl (by decide) (by decide) dL_notes_112 ?_
        refine j_aload_n cx (pc := 113) dL_notes_113 2 rfl ?_
        refine j_aload_n cx (pc := 114) dL_notes_114 3 rfl ?_
        refine j_aload cx (pc := 115) dL_notes_115 6 rfl ?_
        refine j_aload cx (pc := 117) dL_notes_117 7 rfl ?_
        obtain ⟨V23, hV23⟩ : ∃ z, z = (CL_makes V22 (tN (G 0 3)) 1 (nI 1) (V22 0 1)) := ⟨_, rfl⟩
        have cnV23 : vp_in (V23 0 10) 65 := by rw [hV23]; exact (lf_makes_cn cnV22)
        have sgV23 : vp_in (V23 0 3) 7 := by rw [hV23]; exact (lf_makes_sg sgV22)
        refine j_csv cx (pc := 119) 8 (c_L_makes l D Y la V22 (tN (G 0 3)) 1 (nI 1) (V22 0 1) (vp_mono cnV22 (by decide)) (by omega) (by omega)) gL_notes_L_makes rfl (by decide +kernel) rfl ⟨Nat.le_of_ble_eq_true rfl, Nat.le_of_ble_eq_true rfl⟩ [0] rfl (by decide) (Bs' := [lwB Y la V23]) (by rw [hV23]; rfl) A1_lw rfl (Nat.le_of_ble_eq_true rfl) dL_notes_119 ⟨Nat.zero_le _, Nat.zero_le _⟩ ?_
        subst hQ; exact j_vret cx hr (by subst hV23; subst hV22; subst hV21; subst hV20; subst hV19; subst hV18; subst hV17; subst hV2; subst hV1; simp only [CL_notes, if_pos c35_1]) hA dL_notes_122
      | succ n ih =>
        intro i hi h0
        obtain ⟨V24, hV24⟩ : ∃ z, z = setC V17 5 (shl (V17 5) 0 i) := ⟨_, rfl⟩
        have cnV24 : vp_in (V24 0 10) 64 := by rw [hV24]; exact lvp_set (by decide) cnV17
        refine j_bs (Bs' := [lwB Y la V24]) (by rw [hV24]) ?_
        refine j_iload cx (pc := 47) dL_notes_47 0 rfl ?_
        refine j_bipush cx (pc := 49) (v := (nI 19)) dL_notes_49 (by decide) ?_
        refine j_icmpN_ge cx (pc := 51) (by omega) (by decide) (tgt := 70) dL_notes_51 (by decide) (fun c51_7 => ?_) (fun c51_7 => ?_)
        · skip
          refine j_aload_n cx (pc := 70) dL_notes_70 2 rfl ?_
          refine j_bipush cx (pc := 71) (v := (nI 9)) dL_notes_71 (by decide) ?_
          refine j_dup2 cx (pc := 73) dL_notes_73 rfl rfl ?_
          refine j_iald cx (pc := 74) 0 0 0 rfl rfl rfl (by decide) (by decide) dL_notes_74 ?_
          refine j_iconst cx (pc := 75) (v := (nI 1)) dL_notes_75 (by decide) ?_
          refine j_isub cx (pc := 76) dL_notes_76 ?_
          obtain ⟨V25, hV25⟩ : ∃ z, z = up1 V24 0 9 ((V24 0 9) - (nI 1)) := ⟨_, rfl⟩
          have cnV25 : vp_in (V25 0 10) 64 := by rw [hV25]; exact lvp_up (by omega) cnV24
          refine j_iast cx (pc := 77) 0 0 0 rfl rfl rfl (by decide) (by decide) (Bs' := [lwB Y la V25]) (by rw [hV25]; rfl) dL_notes_77 ?_
          refine j_aload_n cx (pc := 78) dL_notes_78 2 rfl ?_
          refine j_iconst cx (pc := 79) (v := (nI 5)) dL_notes_79 (by decide) ?_
          refine j_dup2 cx (pc := 80) dL_notes_80 rfl rfl ?_
          refine j_iald cx (pc := 81) 0 0 0 rfl rfl rfl (by decide) (by decide) dL_notes_81 ?_
          refine j_iconst cx (pc := 82) (v := (nI 1)) dL_notes_82 (by decide) ?_
          refine j_iadd cx (pc := 83) dL_notes_83 ?_
          obtain ⟨V26, hV26⟩ : ∃ z, z = up1 V25 0 5 ((V25 0 5) + (nI 1)) := ⟨_, rfl⟩
          have cnV26 : vp_in (V26 0 10) 64 := by rw [hV26]; exact lvp_up (by omega) cnV25
          refine j_iast cx (pc := 84) 0 0 0 rfl rfl rfl (by decide) (by decide) (Bs' := [lwB Y la V26]) (by rw [hV26]; rfl) dL_notes_84 ?_
          refine j_aload_n cx (pc := 85) dL_notes_85 2 rfl ?_
          refine j_bipush cx (pc := 86) (v := (nI 6)) dL_notes_86 (by decide) ?_
          refine j_dup2 cx (pc := 88) dL_notes_88 rfl rfl ?_
          refine j_iald cx (pc := 89) 0 0 0 rfl rfl rfl (by decide) (by decide) dL_notes_89 ?_
          refine j_aload cx (pc := 90) dL_notes_90 8 rfl ?_
          refine j_iconst cx (pc := 92) (v := (nI 2)) dL_notes_92 (by decide) ?_
          refine j_iald cx (pc := 93) 0 8 0 rfl rfl rfl (by decide) (by decide) dL_notes_93 ?_
          refine j_iadd cx (pc := 94) dL_notes_94 ?_
          obtain ⟨V27, hV27⟩ : ∃ z, z = up1 V26 0 6 ((V26 0 6) + (V26 8 2)) := ⟨_, rfl⟩
          have cnV27 : vp_in (V27 0 10) 64 := by rw [hV27]; exact lvp_up (by omega) cnV26
          refine j_iast cx (pc := 95) 0 0 0 rfl rfl rfl (by decide) (by decide) (Bs' := [lwB Y la V27]) (by rw [hV27]; rfl) dL_notes_95 ?_
          refine j_aload_n cx (pc := 96) dL_notes_96 4 rfl ?_
          refine j_bipush cx (pc := 97) (v := (nI 6)) dL_notes_97 (by decide) ?_
          refine j_iload cx (pc := 99) dL_notes_99 1 rfl ?_
          refine j_imulN cx (pc := 101) dL_notes_101 ?_
          refine j_iconst cx (pc := 102) (v := (nI 4)) dL_notes_102 (by decide) ?_
          refine j_iaddN cx (pc := 103) dL_notes_103 ?_
          refine j_iconst cx (pc := 104) (v := (nI 1)) dL_notes_104 (by decide) ?_
          obtain ⟨V28, hV28⟩ : ∃ z, z = up1 V27 2 ((6 * (tN (G 0 3))) + 4) (nI 1) := ⟨_, rfl⟩
          have cnV28 : vp_in (V28 0 10) 64 := by rw [hV28]; exact lvp_up (by omega) cnV27
          refine j_iast cx (pc := 105) 0 2 0 rfl rfl rfl (by omega) (by decide) (Bs' := [lwB Y la V28]) (by rw [hV28]; rfl) dL_notes_105 ?_
          refine j_iload cx (pc := 106) dL_notes_106 1 rfl ?_
          refine j_iconst cx (pc := 108) (v := (nI 1)) dL_notes_108 (by decide) ?_
          refine j_iconst cx (pc := 109) (v := (nI 1)) dL_notes_109 (by decide) ?_
          refine j_aload_n cx (pc := 110) dL_notes_110 2 rfl ?_
          refine j_iconst cx (pc := 111) (v := (nI 1)) dL_notes_111 (by decide) ?_
          refine j_iald cx (pc := 112) 0 0 0 rfl rfl rfl (by decide) (by decide) dL_notes_112 ?_
          refine j_aload_n cx (pc := 113) dL_notes_113 2 rfl ?_
          refine j_aload_n cx (pc := 114) dL_notes_114 3 rfl ?_
          refine j_aload cx (pc := 115) dL_notes_115 6 rfl ?_
          refine j_aload cx (pc := 117) dL_notes_117 7 rfl ?_
          obtain ⟨V29, hV29⟩ : ∃ z, z = (CL_makes V28 (tN (G 0 3)) 1 (nI 1) (V28 0 1)) := ⟨_, rfl⟩
          refine j_csv cx (pc := 119) 8 (c_L_makes l D Y la V28 (tN (G 0 3)) 1 (nI 1) (V28 0 1) (vp_mono cnV28 (by decide)) (by omega) (by omega)) gL_notes_L_makes rfl (by decide +kernel) rfl ⟨Nat.le_of_ble_eq_true rfl, Nat.le_of_ble_eq_true rfl⟩ [0] rfl (by decide) (Bs' := [lwB Y la V29]) (by rw [hV29]; rfl) A1_lw rfl (Nat.le_of_ble_eq_true rfl) dL_notes_119 ⟨Nat.zero_le _, Nat.zero_le _⟩ ?_
          obtain rfl : i = 19 := by omega
          subst hQ; exact j_vret cx hr (by subst hV29; subst hV28; subst hV27; subst hV26; subst hV25; subst hV24; subst hV17; subst hV2; subst hV1; simp only [CL_notes, if_pos c35_1, if_pos c51_7]) hA dL_notes_122
        · skip
          refine j_aload_n cx (pc := 54) dL_notes_54 5 rfl ?_
          refine j_iload cx (pc := 55) dL_notes_55 0 rfl ?_
          refine j_aload_n cx (pc := 57) dL_notes_57 5 rfl ?_
          refine j_iload cx (pc := 58) dL_notes_58 0 rfl ?_
          refine j_iconst cx (pc := 60) (v := (nI 1)) dL_notes_60 (by decide) ?_
          refine j_iaddN cx (pc := 61) dL_notes_61 ?_
          refine j_iald cx (pc := 62) 0 5 0 rfl rfl rfl (by omega) (by decide) dL_notes_62 ?_
          obtain ⟨V30, hV30⟩ : ∃ z, z = up1 V24 5 i (V24 5 (i + 1)) := ⟨_, rfl⟩
          refine j_iast cx (pc := 63) 0 5 0 rfl rfl rfl (by omega) (by decide) (Bs' := [lwB Y la V30]) (by rw [hV30]; rfl) dL_notes_63 ?_
          refine j_iinc cx (pc := 64) (v := (nI (i + 1))) (lv' := [(8, .int (nI (i + 1))), (7, .int (nI (tN (G 0 3)))), (0, .ref (la 0)), (1, .ref (la 1)), (2, .ref (la 2)), (3, .ref (la 5)), (4, .ref (la 6)), (5, .ref (la 7)), (6, .ref (la 8))]) dL_notes_64 0 rfl (show nI i + nI 1 = nI (i + 1) from nI_add _ _) (by decide) rfl ?_
          refine j_goto cx (pc := 67) (tgt := 47) dL_notes_67 (by decide) ?_
          refine j_lvm (lv' := [(8, .int (nI (i + 1))), (7, .int (nI (tN (G 0 3)))), (0, .ref (la 0)), (1, .ref (la 1)), (2, .ref (la 2)), (3, .ref (la 5)), (4, .ref (la 6)), (5, .ref (la 7)), (6, .ref (la 8))]) (by intro z hz; simp only [List.mem_cons, List.not_mem_nil, or_false] at hz ⊢; rcases hz with rfl | rfl | rfl | rfl | rfl | rfl | rfl | rfl | rfl <;> simp) ?_
          refine j_bs (Bs' := [lwB Y la (setC V17 5 (shl (V17 5) 0 (i + 1)))]) (by subst hV30; subst hV24; rw [(show up1 (setC V17 5 (shl (V17 5) 0 i)) 5 i (setC V17 5 (shl (V17 5) 0 i) 5 (i + 1)) = setC V17 5 (shl (V17 5) 0 (i + 1)) from by have := shl_s V17 5 0 i; simp only [Nat.zero_add] at this; exact this)]) ?_
          exact ih (i + 1) (by omega) (by omega)
    refine j_bs (Bs' := [lwB Y la (setC V17 5 (shl (V17 5) 0 0))]) (by rw [shl_0 V17 5 0]) ?_
    refine j_lvm (lv' := [(8, .int (nI 0)), (7, .int (nI (tN (G 0 3)))), (0, .ref (la 0)), (1, .ref (la 1)), (2, .ref (la 2)), (3, .ref (la 5)), (4, .ref (la 6)), (5, .ref (la 7)), (6, .ref (la 8))]) (by intro z hz; simp only [List.mem_cons, List.not_mem_nil, or_false] at hz ⊢; rcases hz with rfl | rfl | rfl | rfl | rfl | rfl | rfl | rfl | rfl <;> simp) ?_
    exact lp5 (19 - 0) 0 (by omega) (Nat.le_refl _)
def CL_answered (G : Nat → Nat → Int32) (link : Nat) (value : Int32) : Nat → Nat → Int32 :=
  if value = 0 then
    let V6 := up1 G 3 (3 * link) (nI 1)
    if link = 0 then
      let V8 := (CL_serves V6)
      V8
    else
      if (V6 3 (20 + link)) < 0 then
        V6
      else
        let V7 := (CL_offers V6 link (V6 3 (20 + link)))
        V7
  else
    let V1 := up1 G 2 (6 * link) (nI 0)
    let V2 := (CL_makes V1 link 0 (nI 0) (nI 0))
    if link = 0 then
      V2
    else
      let V3 := up1 V2 3 (20 + link) (-1)
      if (V3 3 ((3 * link) - 2)) = (nI 1) then
        let V4 := up1 V3 3 ((3 * link) - 2) (nI 0)
        let V5 := (CL_takes V4 (link - 1))
        V5
      else
        V3
set_option maxHeartbeats 4000000 in
set_option maxRecDepth 100000 in
theorem c_L_answered (l : Launch) (D : va_G) (Y : Nat → ClassId) (la : Nat → Nat) (G : Nat → Nat → Int32) (link : Nat) (value : Int32) (cn0 : vp_in (G 0 10) 61) (pd0 : vp_in (G 0 9) 20) (hk : link < 7) : CtV l yL_answered wsL_answered 3 84 D (tyL Y) [lwB Y la G] [.int (nI link), .int value, .ref (la 0), .ref (la 1), .ref (la 2), .ref (la 3), .ref (la 4), .ref (la 5), .ref (la 6), .ref (la 7)] [lwB Y la (CL_answered G link value)] := by
  refine CtV.intro (own := RL) (cc := cL_answered) (maxL := 10) rfl (by decide +kernel) rfl (Nat.le_of_ble_eq_true rfl) (fun p e s m args below meth c A Q hA hQ cx hr => ?_)
  refine j_iload_n cx (pc := 0) dL_answered_0 1 rfl ?_
  refine j_if_ne cx (pc := 1) (tgt := 67) dL_answered_1 (by decide) (fun c1_1 => ?_) (fun c1_1 => ?_)
  · skip
    refine j_aload cx (pc := 67) dL_answered_67 4 rfl ?_
    refine j_bipush cx (pc := 69) (v := (nI 6)) dL_answered_69 (by decide) ?_
    refine j_iload_n cx (pc := 71) dL_answered_71 0 rfl ?_
    refine j_imulN cx (pc := 72) dL_answered_72 ?_
    refine j_iconst cx (pc := 73) (v := (nI 0)) dL_answered_73 (by decide) ?_
    obtain ⟨V1, hV1⟩ : ∃ z, z = up1 G 2 (6 * link) (nI 0) := ⟨_, rfl⟩
    have cnV1 : vp_in (V1 0 10) 61 := by rw [hV1]; exact lvp_up (by omega) cn0
    have pdV1 : vp_in (V1 0 9) 20 := by rw [hV1]; exact lvp_up (by omega) pd0
    refine j_iast cx (pc := 74) 0 2 0 rfl rfl rfl (by omega) (by decide) (Bs' := [lwB Y la V1]) (by rw [hV1]; rfl) dL_answered_74 ?_
    refine j_iload_n cx (pc := 75) dL_answered_75 0 rfl ?_
    refine j_iconst cx (pc := 76) (v := (nI 0)) dL_answered_76 (by decide) ?_
    refine j_iconst cx (pc := 77) (v := (nI 0)) dL_answered_77 (by decide) ?_
    refine j_iconst cx (pc := 78) (v := (nI 0)) dL_answered_78 (by decide) ?_
    refine j_aload_n cx (pc := 79) dL_answered_79 2 rfl ?_
    refine j_aload_n cx (pc := 80) dL_answered_80 3 rfl ?_
    refine j_aload cx (pc := 81) dL_answered_81 8 rfl ?_
    refine j_aload cx (pc := 83) dL_answered_83 9 rfl ?_
    obtain ⟨V2, hV2⟩ : ∃ z, z = (CL_makes V1 link 0 (nI 0) (nI 0)) := ⟨_, rfl⟩
    have cnV2 : vp_in (V2 0 10) 62 := by rw [hV2]; exact (lf_makes_cn cnV1)
    have pdV2 : vp_in (V2 0 9) 20 := by rw [hV2]; exact (lf_makes_pd pdV1)
    refine j_csv cx (pc := 85) 8 (c_L_makes l D Y la V1 link 0 (nI 0) (nI 0) (vp_mono cnV1 (by decide)) (by omega) (by omega)) gL_answered_L_makes rfl (by decide +kernel) rfl ⟨Nat.le_of_ble_eq_true rfl, Nat.le_of_ble_eq_true rfl⟩ [0] rfl (by decide) (Bs' := [lwB Y la V2]) (by rw [hV2]; rfl) A1_lw rfl (Nat.le_of_ble_eq_true rfl) dL_answered_85 ⟨Nat.zero_le _, Nat.zero_le _⟩ ?_
    refine j_iload_n cx (pc := 88) dL_answered_88 0 rfl ?_
    refine j_ifN_le cx (pc := 89) (by omega) (tgt := 137) dL_answered_89 (by decide) (fun c89_2 => ?_) (fun c89_2 => ?_)
    · skip
      subst hQ; exact j_vret cx hr (by subst hV2; subst hV1; simp only [CL_answered, if_neg c1_1, if_pos c89_2]) hA dL_answered_137
    · skip
      refine j_aload cx (pc := 92) dL_answered_92 5 rfl ?_
      refine j_bipush cx (pc := 94) (v := (nI 20)) dL_answered_94 (by decide) ?_
      refine j_iload_n cx (pc := 96) dL_answered_96 0 rfl ?_
      refine j_iaddN cx (pc := 97) dL_answered_97 ?_
      refine j_iconst cx (pc := 98) (v := (-1)) dL_answered_98 (by decide) ?_
      obtain ⟨V3, hV3⟩ : ∃ z, z = up1 V2 3 (20 + link) (-1) := ⟨_, rfl⟩
      have cnV3 : vp_in (V3 0 10) 62 := by rw [hV3]; exact lvp_up (by omega) cnV2
      have pdV3 : vp_in (V3 0 9) 20 := by rw [hV3]; exact lvp_up (by omega) pdV2
      refine j_iast cx (pc := 99) 0 3 0 rfl rfl rfl (by omega) (by decide) (Bs' := [lwB Y la V3]) (by rw [hV3]; rfl) dL_answered_99 ?_
      refine j_aload cx (pc := 100) dL_answered_100 5 rfl ?_
      refine j_iconst cx (pc := 102) (v := (nI 3)) dL_answered_102 (by decide) ?_
      refine j_iload_n cx (pc := 103) dL_answered_103 0 rfl ?_
      refine j_imulN cx (pc := 104) dL_answered_104 ?_
      refine j_iconst cx (pc := 105) (v := (nI 2)) dL_answered_105 (by decide) ?_
      refine j_isubN cx (pc := 106) (by omega) dL_answered_106 ?_
      refine j_iald cx (pc := 107) 0 3 0 rfl rfl rfl (by omega) (by decide) dL_answered_107 ?_
      refine j_iconst cx (pc := 108) (v := (nI 1)) dL_answered_108 (by decide) ?_
      refine j_icmp_ne cx (pc := 109) (tgt := 137) dL_answered_109 (by decide) (fun c109_3 => ?_) (fun c109_3 => ?_)
      · skip
        subst hQ; exact j_vret cx hr (by subst hV3; subst hV2; subst hV1; simp only [CL_answered, if_neg c1_1, if_neg (Nat.ne_of_gt c89_2), if_neg c109_3]) hA dL_answered_137
      · skip
        refine j_aload cx (pc := 112) dL_answered_112 5 rfl ?_
        refine j_iconst cx (pc := 114) (v := (nI 3)) dL_answered_114 (by decide) ?_
        refine j_iload_n cx (pc := 115) dL_answered_115 0 rfl ?_
        refine j_imulN cx (pc := 116) dL_answered_116 ?_
        refine j_iconst cx (pc := 117) (v := (nI 2)) dL_answered_117 (by decide) ?_
        refine j_isubN cx (pc := 118) (by omega) dL_answered_118 ?_
        refine j_iconst cx (pc := 119) (v := (nI 0)) dL_answered_119 (by decide) ?_
        obtain ⟨V4, hV4⟩ : ∃ z, z = up1 V3 3 ((3 * link) - 2) (nI 0) := ⟨_, rfl⟩
        have cnV4 : vp_in (V4 0 10) 62 := by rw [hV4]; exact lvp_up (by omega) cnV3
        have pdV4 : vp_in (V4 0 9) 20 := by rw [hV4]; exact lvp_up (by omega) pdV3
        refine j_iast cx (pc := 120) 0 3 0 rfl rfl rfl (by omega) (by decide) (Bs' := [lwB Y la V4]) (by rw [hV4]; rfl) dL_answered_120 ?_
        refine j_iload_n cx (pc := 121) dL_answered_121 0 rfl ?_
        refine j_iconst cx (pc := 122) (v := (nI 1)) dL_answered_122 (by decide) ?_
        refine j_isubN cx (pc := 123) (by omega) dL_answered_123 ?_
        refine j_aload_n cx (pc := 124) dL_answered_124 2 rfl ?_
        refine j_aload_n cx (pc := 125) dL_answered_125 3 rfl ?_
        refine j_aload cx (pc := 126) dL_answered_126 4 rfl ?_
        refine j_aload cx (pc := 128) dL_answered_128 5 rfl ?_
        refine j_aload cx (pc := 130) dL_answered_130 8 rfl ?_
        refine j_aload cx (pc := 132) dL_answered_132 9 rfl ?_
        obtain ⟨V5, hV5⟩ : ∃ z, z = (CL_takes V4 (link - 1)) := ⟨_, rfl⟩
        refine j_csv cx (pc := 134) 7 (c_L_takes l D Y la V4 (link - 1) (vp_mono cnV4 (by decide)) (by omega)) gL_answered_L_takes rfl (by decide +kernel) rfl ⟨Nat.le_of_ble_eq_true rfl, Nat.le_of_ble_eq_true rfl⟩ [0] rfl (by decide) (Bs' := [lwB Y la V5]) (by rw [hV5]; rfl) A1_lw rfl (Nat.le_of_ble_eq_true rfl) dL_answered_134 ⟨Nat.zero_le _, Nat.zero_le _⟩ ?_
        subst hQ; exact j_vret cx hr (by subst hV5; subst hV4; subst hV3; subst hV2; subst hV1; simp only [CL_answered, if_neg c1_1, if_neg (Nat.ne_of_gt c89_2), if_pos c109_3]) hA dL_answered_137
  · skip
    refine j_aload cx (pc := 4) dL_answered_4 5 rfl ?_
    refine j_iconst cx (pc := 6) (v := (nI 3)) dL_answered_6 (by decide) ?_
    refine j_iload_n cx (pc := 7) dL_answered_7 0 rfl ?_
    refine j_imulN cx (pc := 8) dL_answered_8 ?_
    refine j_iconst cx (pc := 9) (v := (nI 1)) dL_answered_9 (by decide) ?_
    obtain ⟨V6, hV6⟩ : ∃ z, z = up1 G 3 (3 * link) (nI 1) := ⟨_, rfl⟩
    have cnV6 : vp_in (V6 0 10) 61 := by rw [hV6]; exact lvp_up (by omega) cn0
    have pdV6 : vp_in (V6 0 9) 20 := by rw [hV6]; exact lvp_up (by omega) pd0
    refine j_iast cx (pc := 10) 0 3 0 rfl rfl rfl (by omega) (by decide) (Bs' := [lwB Y la V6]) (by rw [hV6]; rfl) dL_answered_10 ?_
    refine j_iload_n cx (pc := 11) dL_answered_11 0 rfl ?_
    refine j_ifN_ne cx (pc := 12) (by omega) (tgt := 35) dL_answered_12 (by decide) (fun c12_4 => ?_) (fun c12_4 => ?_)
    · skip
      refine j_aload cx (pc := 35) dL_answered_35 5 rfl ?_
      refine j_bipush cx (pc := 37) (v := (nI 20)) dL_answered_37 (by decide) ?_
      refine j_iload_n cx (pc := 39) dL_answered_39 0 rfl ?_
      refine j_iaddN cx (pc := 40) dL_answered_40 ?_
      refine j_iald cx (pc := 41) 0 3 0 rfl rfl rfl (by omega) (by decide) dL_answered_41 ?_
      refine j_if_lt cx (pc := 42) (tgt := 66) dL_answered_42 (by decide) (fun c42_5 => ?_) (fun c42_5 => ?_)
      · skip
        subst hQ; exact j_vret cx hr (by subst hV6; simp only [CL_answered, if_pos c1_1, if_neg c12_4, if_pos c42_5]) hA dL_answered_66
      · skip
        refine j_iload_n cx (pc := 45) dL_answered_45 0 rfl ?_
        refine j_aload cx (pc := 46) dL_answered_46 5 rfl ?_
        refine j_bipush cx (pc := 48) (v := (nI 20)) dL_answered_48 (by decide) ?_
        refine j_iload_n cx (pc := 50) dL_answered_50 0 rfl ?_
        refine j_iaddN cx (pc := 51) dL_answered_51 ?_
        refine j_iald cx (pc := 52) 0 3 0 rfl rfl rfl (by omega) (by decide) dL_answered_52 ?_
        refine j_aload_n cx (pc := 53) dL_answered_53 2 rfl ?_
        refine j_aload_n cx (pc := 54) dL_answered_54 3 rfl ?_
        refine j_aload cx (pc := 55) dL_answered_55 4 rfl ?_
        refine j_aload cx (pc := 57) dL_answered_57 5 rfl ?_
        refine j_aload cx (pc := 59) dL_answered_59 8 rfl ?_
        refine j_aload cx (pc := 61) dL_answered_61 9 rfl ?_
        obtain ⟨V7, hV7⟩ : ∃ z, z = (CL_offers V6 link (V6 3 (20 + link))) := ⟨_, rfl⟩
        have cnV7 : vp_in (V7 0 10) 63 := by rw [hV7]; exact (lf_offers_cn cnV6)
        have pdV7 : vp_in (V7 0 9) 20 := by rw [hV7]; exact (lf_offers_pd pdV6)
        refine j_csv cx (pc := 63) 8 (c_L_offers l D Y la V6 link (V6 3 (20 + link)) (vp_mono cnV6 (by decide)) (by omega)) gL_answered_L_offers rfl (by decide +kernel) rfl ⟨Nat.le_of_ble_eq_true rfl, Nat.le_of_ble_eq_true rfl⟩ [0] rfl (by decide) (Bs' := [lwB Y la V7]) (by rw [hV7]; rfl) A1_lw rfl (Nat.le_of_ble_eq_true rfl) dL_answered_63 ⟨Nat.zero_le _, Nat.zero_le _⟩ ?_
        subst hQ; exact j_vret cx hr (by subst hV7; subst hV6; simp only [CL_answered, if_pos c1_1, if_neg c12_4, if_neg c42_5]) hA dL_answered_66
    · skip
      refine j_aload_n cx (pc := 15) dL_answered_15 2 rfl ?_
      refine j_aload_n cx (pc := 16) dL_answered_16 3 rfl ?_
      refine j_aload cx (pc := 17) dL_answered_17 4 rfl ?_
      refine j_aload cx (pc := 19) dL_answered_19 5 rfl ?_
      refine j_aload cx (pc := 21) dL_answered_21 6 rfl ?_
      refine j_aload cx (pc := 23) dL_answered_23 7 rfl ?_
      refine j_aload cx (pc := 25) dL_answered_25 8 rfl ?_
      refine j_aload cx (pc := 27) dL_answered_27 9 rfl ?_
      obtain ⟨V8, hV8⟩ : ∃ z, z = (CL_serves V6) := ⟨_, rfl⟩
      refine j_csv cx (pc := 29) 8 (c_L_serves l D Y la V6  (vp_mono cnV6 (by decide)) (vp_mono pdV6 (by decide))) gL_answered_L_serves rfl (by decide +kernel) rfl ⟨Nat.le_of_ble_eq_true rfl, Nat.le_of_ble_eq_true rfl⟩ [0] rfl (by decide) (Bs' := [lwB Y la V8]) (by rw [hV8]; rfl) A1_lw rfl (Nat.le_of_ble_eq_true rfl) dL_answered_29 ⟨Nat.zero_le _, Nat.zero_le _⟩ ?_
      refine j_goto cx (pc := 32) (tgt := 66) dL_answered_32 (by decide) ?_
      subst hQ; exact j_vret cx hr (by subst hV8; subst hV6; simp only [CL_answered, if_pos c1_1, if_pos c12_4]) hA dL_answered_66
