def CL_makes (G : Nat → Nat → Int32) (link : Nat) (wire : Nat) (value : Int32) (longer : Int32) : Nat → Nat → Int32 :=
  let V1 := up1 G 6 (tN (G 0 10)) (((G 0 4) + (G 1 ((3 * link) + wire))) + longer)
  let V2 := up1 V1 7 (tN (V1 0 10)) ((nI ((96 * link) + (32 * wire))) + value)
  let V3 := up1 V2 0 10 ((V2 0 10) + (nI 1))
  V3
set_option maxHeartbeats 4000000 in
set_option maxRecDepth 100000 in
theorem c_L_makes (l : Launch) (D : va_G) (Y : Nat → ClassId) (la : Nat → Nat) (G : Nat → Nat → Int32) (link : Nat) (wire : Nat) (value : Int32) (longer : Int32) (cn0 : vp_in (G 0 10) 64) (hk : link < 7) (hw : wire < 3) : CtV l yL_makes wsL_makes 0 0 D (tyL Y) [lwB Y la G] [.int (nI link), .int (nI wire), .int value, .int longer, .ref (la 0), .ref (la 1), .ref (la 6), .ref (la 7)] [lwB Y la (CL_makes G link wire value longer)] := by
  refine CtV.intro (own := RL) (cc := cL_makes) (maxL := 8) rfl (by decide +kernel) rfl (Nat.le_of_ble_eq_true rfl) (fun p e s m args below meth c A Q hA hQ cx hr => ?_)
  refine j_aload cx (pc := 0) dL_makes_0 6 rfl ?_
  refine j_aload cx (pc := 2) dL_makes_2 4 rfl ?_
  refine j_bipush cx (pc := 4) (v := (nI 10)) dL_makes_4 (by decide) ?_
  refine j_iald cx (pc := 6) 0 0 0 rfl rfl rfl (by decide) (by decide) dL_makes_6 ?_
  have lcnG_7 := inL cn0
  refine j_top (show (G 0 10) = (nI (tN (G 0 10))) from inN cn0) ?_
  refine j_aload cx (pc := 7) dL_makes_7 4 rfl ?_
  refine j_iconst cx (pc := 9) (v := (nI 4)) dL_makes_9 (by decide) ?_
  refine j_iald cx (pc := 10) 0 0 0 rfl rfl rfl (by decide) (by decide) dL_makes_10 ?_
  refine j_aload cx (pc := 11) dL_makes_11 5 rfl ?_
  refine j_iconst cx (pc := 13) (v := (nI 3)) dL_makes_13 (by decide) ?_
  refine j_iload_n cx (pc := 14) dL_makes_14 0 rfl ?_
  refine j_imulN cx (pc := 15) dL_makes_15 ?_
  refine j_iload_n cx (pc := 16) dL_makes_16 1 rfl ?_
  refine j_iaddN cx (pc := 17) dL_makes_17 ?_
  refine j_iald cx (pc := 18) 0 1 0 rfl rfl rfl (by omega) (by decide) dL_makes_18 ?_
  refine j_iadd cx (pc := 19) dL_makes_19 ?_
  refine j_iload_n cx (pc := 20) dL_makes_20 3 rfl ?_
  refine j_iadd cx (pc := 21) dL_makes_21 ?_
  obtain ⟨V1, hV1⟩ : ∃ z, z = up1 G 6 (tN (G 0 10)) (((G 0 4) + (G 1 ((3 * link) + wire))) + longer) := ⟨_, rfl⟩
  have cnV1 : vp_in (V1 0 10) 64 := by rw [hV1]; exact lvp_up (by omega) cn0
  refine j_iast cx (pc := 22) 0 6 0 rfl rfl rfl (by omega) (by decide) (Bs' := [lwB Y la V1]) (by rw [hV1]; rfl) dL_makes_22 ?_
  refine j_aload cx (pc := 23) dL_makes_23 7 rfl ?_
  refine j_aload cx (pc := 25) dL_makes_25 4 rfl ?_
  refine j_bipush cx (pc := 27) (v := (nI 10)) dL_makes_27 (by decide) ?_
  refine j_iald cx (pc := 29) 0 0 0 rfl rfl rfl (by decide) (by decide) dL_makes_29 ?_
  have lcnV1_30 := inL cnV1
  refine j_top (show (V1 0 10) = (nI (tN (V1 0 10))) from inN cnV1) ?_
  refine j_bipush cx (pc := 30) (v := (nI 96)) dL_makes_30 (by decide) ?_
  refine j_iload_n cx (pc := 32) dL_makes_32 0 rfl ?_
  refine j_imulN cx (pc := 33) dL_makes_33 ?_
  refine j_bipush cx (pc := 34) (v := (nI 32)) dL_makes_34 (by decide) ?_
  refine j_iload_n cx (pc := 36) dL_makes_36 1 rfl ?_
  refine j_imulN cx (pc := 37) dL_makes_37 ?_
  refine j_iaddN cx (pc := 38) dL_makes_38 ?_
  refine j_iload_n cx (pc := 39) dL_makes_39 2 rfl ?_
  refine j_iadd cx (pc := 40) dL_makes_40 ?_
  obtain ⟨V2, hV2⟩ : ∃ z, z = up1 V1 7 (tN (V1 0 10)) ((nI ((96 * link) + (32 * wire))) + value) := ⟨_, rfl⟩
  have cnV2 : vp_in (V2 0 10) 64 := by rw [hV2]; exact lvp_up (by omega) cnV1
  refine j_iast cx (pc := 41) 0 7 0 rfl rfl rfl (by omega) (by decide) (Bs' := [lwB Y la V2]) (by rw [hV2]; rfl) dL_makes_41 ?_
  refine j_aload cx (pc := 42) dL_makes_42 4 rfl ?_
  refine j_bipush cx (pc := 44) (v := (nI 10)) dL_makes_44 (by decide) ?_
  refine j_dup2 cx (pc := 46) dL_makes_46 rfl rfl ?_
  refine j_iald cx (pc := 47) 0 0 0 rfl rfl rfl (by decide) (by decide) dL_makes_47 ?_
  refine j_iconst cx (pc := 48) (v := (nI 1)) dL_makes_48 (by decide) ?_
  refine j_iadd cx (pc := 49) dL_makes_49 ?_
  obtain ⟨V3, hV3⟩ : ∃ z, z = up1 V2 0 10 ((V2 0 10) + (nI 1)) := ⟨_, rfl⟩
  refine j_iast cx (pc := 50) 0 0 0 rfl rfl rfl (by decide) (by decide) (Bs' := [lwB Y la V3]) (by rw [hV3]; rfl) dL_makes_50 ?_
  subst hQ; exact j_vret cx hr (by subst hV3; subst hV2; subst hV1; rfl) hA dL_makes_51
theorem mk_ne {G : Nat → Nat → Int32} {k w c i : Nat} {v x : Int32} (h6 : c ≠ 6) (h7 : c ≠ 7) (h : ¬ (c = 0 ∧ i = 10)) : CL_makes G k w v x c i = G c i := by
  unfold CL_makes
  try dsimp only
  rw [lup_ne (by omega), lup_ne (by omega), lup_ne (by omega)]
theorem mk_10 {G : Nat → Nat → Int32} {k w : Nat} {v x : Int32} : CL_makes G k w v x 0 10 = G 0 10 + nI 1 := by
  unfold CL_makes
  try dsimp only
  rw [up1_eq, lup_ne (by omega), lup_ne (by omega)]
theorem lf_makes_cn {G : Nat → Nat → Int32} {k w n : Nat} {v x : Int32} (hn : vp_in (G 0 10) n) (h : n < 2 ^ 31 - 1 := by decide) : vp_in (CL_makes G k w v x 0 10) (n + 1) := by
  rw [mk_10]; exact vp_suc hn h
theorem lf_makes_pd {G : Nat → Nat → Int32} {k w n : Nat} {v x : Int32} (hn : vp_in (G 0 9) n) : vp_in (CL_makes G k w v x 0 9) (n + 0) := by
  rw [mk_ne (by decide) (by decide) (by decide)]; exact hn
theorem lf_makes_sg {G : Nat → Nat → Int32} {k w n : Nat} {v x : Int32} (hn : vp_in (G 0 3) n) : vp_in (CL_makes G k w v x 0 3) (n + 0) := by
  rw [mk_ne (by decide) (by decide) (by decide)]; exact hn
def CL_offers (G : Nat → Nat → Int32) (link : Nat) (word : Int32) : Nat → Nat → Int32 :=
  let V1 := up1 G 2 ((6 * link) + 2) word
  let V2 := (CL_makes V1 link 2 word (nI 0))
  let V3 := up1 V2 2 (6 * link) (nI 1)
  let V4 := (CL_makes V3 link 0 (nI 1) (V3 0 0))
  let V5 := up1 V4 3 (3 * link) (nI 0)
  let V6 := up1 V5 3 ((3 * link) + 2) ((V5 3 ((3 * link) + 2)) + (nI 1))
  V6
set_option maxHeartbeats 4000000 in
set_option maxRecDepth 100000 in
theorem c_L_offers (l : Launch) (D : va_G) (Y : Nat → ClassId) (la : Nat → Nat) (G : Nat → Nat → Int32) (link : Nat) (word : Int32) (cn0 : vp_in (G 0 10) 63) (hk : link < 7) : CtV l yL_offers wsL_offers 1 27 D (tyL Y) [lwB Y la G] [.int (nI link), .int word, .ref (la 0), .ref (la 1), .ref (la 2), .ref (la 3), .ref (la 6), .ref (la 7)] [lwB Y la (CL_offers G link word)] := by
  refine CtV.intro (own := RL) (cc := cL_offers) (maxL := 8) rfl (by decide +kernel) rfl (Nat.le_of_ble_eq_true rfl) (fun p e s m args below meth c A Q hA hQ cx hr => ?_)
  refine j_aload cx (pc := 0) dL_offers_0 4 rfl ?_
  refine j_bipush cx (pc := 2) (v := (nI 6)) dL_offers_2 (by decide) ?_
  refine j_iload_n cx (pc := 4) dL_offers_4 0 rfl ?_
  refine j_imulN cx (pc := 5) dL_offers_5 ?_
  refine j_iconst cx (pc := 6) (v := (nI 2)) dL_offers_6 (by decide) ?_
  refine j_iaddN cx (pc := 7) dL_offers_7 ?_
  refine j_iload_n cx (pc := 8) dL_offers_8 1 rfl ?_
  obtain ⟨V1, hV1⟩ : ∃ z, z = up1 G 2 ((6 * link) + 2) word := ⟨_, rfl⟩
  have cnV1 : vp_in (V1 0 10) 63 := by rw [hV1]; exact lvp_up (by omega) cn0
  refine j_iast cx (pc := 9) 0 2 0 rfl rfl rfl (by omega) (by decide) (Bs' := [lwB Y la V1]) (by rw [hV1]; rfl) dL_offers_9 ?_
  refine j_iload_n cx (pc := 10) dL_offers_10 0 rfl ?_
  refine j_iconst cx (pc := 11) (v := (nI 2)) dL_offers_11 (by decide) ?_
  refine j_iload_n cx (pc := 12) dL_offers_12 1 rfl ?_
  refine j_iconst cx (pc := 13) (v := (nI 0)) dL_offers_13 (by decide) ?_
  refine j_aload_n cx (pc := 14) dL_offers_14 2 rfl ?_
  refine j_aload_n cx (pc := 15) dL_offers_15 3 rfl ?_
  refine j_aload cx (pc := 16) dL_offers_16 6 rfl ?_
  refine j_aload cx (pc := 18) dL_offers_18 7 rfl ?_
  obtain ⟨V2, hV2⟩ : ∃ z, z = (CL_makes V1 link 2 word (nI 0)) := ⟨_, rfl⟩
  have cnV2 : vp_in (V2 0 10) 64 := by rw [hV2]; exact (lf_makes_cn cnV1)
  refine j_csv cx (pc := 20) 8 (c_L_makes l D Y la V1 link 2 word (nI 0) (vp_mono cnV1 (by decide)) (by omega) (by omega)) gL_offers_L_makes rfl (by decide +kernel) rfl ⟨Nat.le_of_ble_eq_true rfl, Nat.le_of_ble_eq_true rfl⟩ [0] rfl (by decide) (Bs' := [lwB Y la V2]) (by rw [hV2]; rfl) A1_lw rfl (Nat.le_of_ble_eq_true rfl) dL_offers_20 ⟨Nat.zero_le _, Nat.zero_le _⟩ ?_
  refine j_aload cx (pc := 23) dL_offers_23 4 rfl ?_
  refine j_bipush cx (pc := 25) (v := (nI 6)) dL_offers_25 (by decide) ?_
  refine j_iload_n cx (pc := 27) dL_offers_27 0 rfl ?_
  refine j_imulN cx (pc := 28) dL_offers_28 ?_
  refine j_iconst cx (pc := 29) (v := (nI 1)) dL_offers_29 (by decide) ?_
  obtain ⟨V3, hV3⟩ : ∃ z, z = up1 V2 2 (6 * link) (nI 1) := ⟨_, rfl⟩
  have cnV3 : vp_in (V3 0 10) 64 := by rw [hV3]; exact lvp_up (by omega) cnV2
  refine j_iast cx (pc := 30) 0 2 0 rfl rfl rfl (by omega) (by decide) (Bs' := [lwB Y la V3]) (by rw [hV3]; rfl) dL_offers_30 ?_
  refine j_iload_n cx (pc := 31) dL_offers_31 0 rfl ?_
  refine j_iconst cx (pc := 32) (v := (nI 0)) dL_offers_32 (by decide) ?_
  refine j_iconst cx (pc := 33) (v := (nI 1)) dL_offers_33 (by decide) ?_
  refine j_aload_n cx (pc := 34) dL_offers_34 2 rfl ?_
  refine j_iconst cx (pc := 35) (v := (nI 0)) dL_offers_35 (by decide) ?_
  refine j_iald cx (pc := 36) 0 0 0 rfl rfl rfl (by decide) (by decide) dL_offers_36 ?_
  refine j_aload_n cx (pc := 37) dL_offers_37 2 rfl ?_
  refine j_aload_n cx (pc := 38) dL_offers_38 3 rfl ?_
  refine j_aload cx (pc := 39) dL_offers_39 6 rfl ?_
  refine j_aload cx (pc := 41) dL_offers_41 7 rfl ?_
  obtain ⟨V4, hV4⟩ : ∃ z, z = (CL_makes V3 link 0 (nI 1) (V3 0 0)) := ⟨_, rfl⟩
  have cnV4 : vp_in (V4 0 10) 65 := by rw [hV4]; exact (lf_makes_cn cnV3)
  refine j_csv cx (pc := 43) 8 (c_L_makes l D Y la V3 link 0 (nI 1) (V3 0 0) (vp_mono cnV3 (by decide)) (by omega) (by omega)) gL_offers_L_makes rfl (by decide +kernel) rfl ⟨Nat.le_of_ble_eq_true rfl, Nat.le_of_ble_eq_true rfl⟩ [0] rfl (by decide) (Bs' := [lwB Y la V4]) (by rw [hV4]; rfl) A1_lw rfl (Nat.le_of_ble_eq_true rfl) dL_offers_43 ⟨Nat.zero_le _, Nat.zero_le _⟩ ?_
  refine j_aload cx (pc := 46) dL_offers_46 5 rfl ?_
  refine j_iconst cx (pc := 48) (v := (nI 3)) dL_offers_48 (by decide) ?_
  refine j_iload_n cx (pc := 49) dL_offers_49 0 rfl ?_
  refine j_imulN cx (pc := 50) dL_offers_50 ?_
  refine j_iconst cx (pc := 51) (v := (nI 0)) dL_offers_51 (by decide) ?_
  obtain ⟨V5, hV5⟩ : ∃ z, z = up1 V4 3 (3 * link) (nI 0) := ⟨_, rfl⟩
  have cnV5 : vp_in (V5 0 10) 65 := by rw [hV5]; exact lvp_up (by omega) cnV4
  refine j_iast cx (pc := 52) 0 3 0 rfl rfl rfl (by omega) (by decide) (Bs' := [lwB Y la V5]) (by rw [hV5]; rfl) dL_offers_52 ?_
  refine j_aload cx (pc := 53) dL_offers_53 5 rfl ?_
  refine j_iconst cx (pc := 55) (v := (nI 3)) dL_offers_55 (by decide) ?_
  refine j_iload_n cx (pc := 56) dL_offers_56 0 rfl ?_
  refine j_imulN cx (pc := 57) dL_offers_57 ?_
  refine j_iconst cx (pc := 58) (v := (nI 2)) dL_offers_58 (by decide) ?_
  refine j_iaddN cx (pc := 59) dL_offers_59 ?_
  refine j_dup2 cx (pc := 60) dL_offers_60 rfl rfl ?_
  refine j_iald cx (pc := 61) 0 3 0 rfl rfl rfl (by omega) (by decide) dL_offers_61 ?_
  refine j_iconst cx (pc := 62) (v := (nI 1)) dL_offers_62 (by decide) ?_
  refine j_iadd cx (pc := 63) dL_offers_63 ?_
  obtain ⟨V6, hV6⟩ : ∃ z, z = up1 V5 3 ((3 * link) + 2) ((V5 3 ((3 * link) + 2)) + (nI 1)) := ⟨_, rfl⟩
  have cnV6 : vp_in (V6 0 10) 65 := by rw [hV6]; exact lvp_up (by omega) cnV5
  refine j_iast cx (pc := 64) 0 3 0 rfl rfl rfl (by omega) (by decide) (Bs' := [lwB Y la V6]) (by rw [hV6]; rfl) dL_offers_64 ?_
  subst hQ; exact j_vret cx hr (by subst hV6; subst hV5; subst hV4; subst hV3; subst hV2; subst hV1; rfl) hA dL_offers_65
theorem of_ne {G : Nat → Nat → Int32} {k c i : Nat} {v : Int32} (h2 : c ≠ 2) (h3 : c ≠ 3) (h6 : c ≠ 6) (h7 : c ≠ 7) (h : ¬ (c = 0 ∧ i = 10)) : CL_offers G k v c i = G c i := by
  unfold CL_offers
  try dsimp only
  rw [lup_ne (by omega), lup_ne (by omega), mk_ne h6 h7 h, lup_ne (by omega), mk_ne h6 h7 h, lup_ne (by omega)]
theorem lf_offers_cn {G : Nat → Nat → Int32} {k n : Nat} {v : Int32} (hn : vp_in (G 0 10) n) (h : n < 1000 := by decide) : vp_in (CL_offers G k v 0 10) (n + 2) := by
  unfold CL_offers
  exact lvp_up (by omega) (lvp_up (by omega) (lf_makes_cn (lvp_up (by omega) (lf_makes_cn (lvp_up (by omega) hn) (by omega))) (by omega)))
theorem lf_offers_pd {G : Nat → Nat → Int32} {k n : Nat} {v : Int32} (hn : vp_in (G 0 9) n) : vp_in (CL_offers G k v 0 9) (n + 0) := by
  rw [of_ne (by decide) (by decide) (by decide) (by decide) (by decide)]; exact hn
def CL_takes (G : Nat → Nat → Int32) (stage : Nat) : Nat → Nat → Int32 :=
  let V1 := up1 G 3 (21 + stage) (G 2 ((6 * stage) + 5))
  let V2 := up1 V1 2 ((6 * stage) + 4) (nI 1)
  let V3 := (CL_makes V2 stage 1 (nI 1) (nI 0))
  if (V3 3 ((3 * stage) + 3)) = (nI 1) then
    let V4 := (CL_offers V3 (stage + 1) (V3 3 (21 + stage)))
    V4
  else
    V3
set_option maxHeartbeats 4000000 in
set_option maxRecDepth 100000 in
theorem c_L_takes (l : Launch) (D : va_G) (Y : Nat → ClassId) (la : Nat → Nat) (G : Nat → Nat → Int32) (stage : Nat) (cn0 : vp_in (G 0 10) 62) (hs : stage < 6) : CtV l yL_takes wsL_takes 2 54 D (tyL Y) [lwB Y la G] [.int (nI stage), .ref (la 0), .ref (la 1), .ref (la 2), .ref (la 3), .ref (la 6), .ref (la 7)] [lwB Y la (CL_takes G stage)] := by
  refine CtV.intro (own := RL) (cc := cL_takes) (maxL := 7) rfl (by decide +kernel) rfl (Nat.le_of_ble_eq_true rfl) (fun p e s m args below meth c A Q hA hQ cx hr => ?_)
  refine j_aload cx (pc := 0) dL_takes_0 4 rfl ?_
  refine j_bipush cx (pc := 2) (v := (nI 21)) dL_takes_2 (by decide) ?_
  refine j_iload_n cx (pc := 4) dL_takes_4 0 rfl ?_
  refine j_iaddN cx (pc := 5) dL_takes_5 ?_
  refine j_aload_n cx (pc := 6) dL_takes_6 3 rfl ?_
  refine j_bipush cx (pc := 7) (v := (nI 6)) dL_takes_7 (by decide) ?_
  refine j_iload_n cx (pc := 9) dL_takes_9 0 rfl ?_
  refine j_imulN cx (pc := 10) dL_takes_10 ?_
  refine j_iconst cx (pc := 11) (v := (nI 5)) dL_takes_11 (by decide) ?_
  refine j_iaddN cx (pc := 12) dL_takes_12 ?_
  refine j_iald cx (pc := 13) 0 2 0 rfl rfl rfl (by omega) (by decide) dL_takes_13 ?_
  obtain ⟨V1, hV1⟩ : ∃ z, z = up1 G 3 (21 + stage) (G 2 ((6 * stage) + 5)) := ⟨_, rfl⟩
  have cnV1 : vp_in (V1 0 10) 62 := by rw [hV1]; exact lvp_up (by omega) cn0
  refine j_iast cx (pc := 14) 0 3 0 rfl rfl rfl (by omega) (by decide) (Bs' := [lwB Y la V1]) (by rw [hV1]; rfl) dL_takes_14 ?_
  refine j_aload_n cx (pc := 15) dL_takes_15 3 rfl ?_
  refine j_bipush cx (pc := 16) (v := (nI 6)) dL_takes_16 (by decide) ?_
  refine j_iload_n cx (pc := 18) dL_takes_18 0 rfl ?_
  refine j_imulN cx (pc := 19) dL_takes_19 ?_
  refine j_iconst cx (pc := 20) (v := (nI 4)) dL_takes_20 (by decide) ?_
  refine j_iaddN cx (pc := 21) dL_takes_21 ?_
  refine j_iconst cx (pc := 22) (v := (nI 1)) dL_takes_22 (by decide) ?_
  obtain ⟨V2, hV2⟩ : ∃ z, z = up1 V1 2 ((6 * stage) + 4) (nI 1) := ⟨_, rfl⟩
  have cnV2 : vp_in (V2 0 10) 62 := by rw [hV2]; exact lvp_up (by omega) cnV1
  refine j_iast cx (pc := 23) 0 2 0 rfl rfl rfl (by omega) (by decide) (Bs' := [lwB Y la V2]) (by rw [hV2]; rfl) dL_takes_23 ?_
  refine j_iload_n cx (pc := 24) dL_takes_24 0 rfl ?_
  refine j_iconst cx (pc := 25) (v := (nI 1)) dL_takes_25 (by decide) ?_
  refine j_iconst cx (pc := 26) (v := (nI 1)) dL_takes_26 (by decide) ?_
  refine j_iconst cx (pc := 27) (v := (nI 0)) dL_takes_27 (by decide) ?_
  refine j_aload_n cx (pc := 28) dL_takes_28 1 rfl ?_
  refine j_aload_n cx (pc := 29) dL_takes_29 2 rfl ?_
  refine j_aload cx (pc := 30) dL_takes_30 5 rfl ?_
  refine j_aload cx (pc := 32) dL_takes_32 6 rfl ?_
  obtain ⟨V3, hV3⟩ : ∃ z, z = (CL_makes V2 stage 1 (nI 1) (nI 0)) := ⟨_, rfl⟩
  have cnV3 : vp_in (V3 0 10) 63 := by rw [hV3]; exact (lf_makes_cn cnV2)
  refine j_csv cx (pc := 34) 8 (c_L_makes l D Y la V2 stage 1 (nI 1) (nI 0) (vp_mono cnV2 (by decide)) (by omega) (by omega)) gL_takes_L_makes rfl (by decide +kernel) rfl ⟨Nat.le_of_ble_eq_true rfl, Nat.le_of_ble_eq_true rfl⟩ [0] rfl (by decide) (Bs' := [lwB Y la V3]) (by rw [hV3]; rfl) A1_lw rfl (Nat.le_of_ble_eq_true rfl) dL_takes_34 ⟨Nat.zero_le _, Nat.zero_le _⟩ ?_
  refine j_aload cx (pc := 37) dL_takes_37 4 rfl ?_
  refine j_iconst cx (pc := 39) (v := (nI 3)) dL_takes_39 (by decide) ?_
  refine j_iload_n cx (pc := 40) dL_takes_40 0 rfl ?_
  refine j_imulN cx (pc := 41) dL_takes_41 ?_
  refine j_iconst cx (pc := 42) (v := (nI 3)) dL_takes_42 (by decide) ?_
  refine j_iaddN cx (pc := 43) dL_takes_43 ?_
  refine j_iald cx (pc := 44) 0 3 0 rfl rfl rfl (by omega) (by decide) dL_takes_44 ?_
  refine j_iconst cx (pc := 45) (v := (nI 1)) dL_takes_45 (by decide) ?_
  refine j_icmp_ne cx (pc := 46) (tgt := 71) dL_takes_46 (by decide) (fun c46_1 => ?_) (fun c46_1 => ?_)
  · skip
    subst hQ; exact j_vret cx hr (by subst hV3; subst hV2; subst hV1; simp only [CL_takes, if_neg c46_1]) hA dL_takes_71
  · skip
    refine j_iload_n cx (pc := 49) dL_takes_49 0 rfl ?_
    refine j_iconst cx (pc := 50) (v := (nI 1)) dL_takes_50 (by decide) ?_
    refine j_iaddN cx (pc := 51) dL_takes_51 ?_
    refine j_aload cx (pc := 52) dL_takes_52 4 rfl ?_
    refine j_bipush cx (pc := 54) (v := (nI 21)) dL_takes_54 (by decide) ?_
    refine j_iload_n cx (pc := 56) dL_takes_56 0 rfl ?_
    refine j_iaddN cx (pc := 57) dL_takes_57 ?_
    refine j_iald cx (pc := 58) 0 3 0 rfl rfl rfl (by omega) (by decide) dL_takes_58 ?_
    refine j_aload_n cx (pc := 59) dL_takes_59 1 rfl ?_
    refine j_aload_n cx (pc := 60) dL_takes_60 2 rfl ?_
    refine j_aload_n cx (pc := 61) dL_takes_61 3 rfl ?_
    refine j_aload cx (pc := 62) dL_takes_62 4 rfl ?_
    refine j_aload cx (pc := 64) dL_takes_64 5 rfl ?_
    refine j_aload cx (pc := 66) dL_takes_66 6 rfl ?_
    obtain ⟨V4, hV4⟩ : ∃ z, z = (CL_offers V3 (stage + 1) (V3 3 (21 + stage))) := ⟨_, rfl⟩
    have cnV4 : vp_in (V4 0 10) 65 := by rw [hV4]; exact (lf_offers_cn cnV3)
    refine j_csv cx (pc := 68) 8 (c_L_offers l D Y la V3 (stage + 1) (V3 3 (21 + stage)) (vp_mono cnV3 (by decide)) (by omega)) gL_takes_L_offers rfl (by decide +kernel) rfl ⟨Nat.le_of_ble_eq_true rfl, Nat.le_of_ble_eq_true rfl⟩ [0] rfl (by decide) (Bs' := [lwB Y la V4]) (by rw [hV4]; rfl) A1_lw rfl (Nat.le_of_ble_eq_true rfl) dL_takes_68 ⟨Nat.zero_le _, Nat.zero_le _⟩ ?_
    subst hQ; exact j_vret cx hr (by subst hV4; subst hV3; subst hV2; subst hV1; simp only [CL_takes, if_pos c46_1]) hA dL_takes_71
def CL_serve (G : Nat → Nat → Int32) (sd : Nat) : Nat → Nat → Int32 :=
  let V1 := setC G 4 (shl (G 4) (20 * sd) 19)
  let V2 := up1 V1 0 (11 + sd) ((V1 0 (11 + sd)) - (nI 1))
  let V3 := up1 V2 0 8 (nI sd)
  let V4 := up1 V3 5 (tN (V3 0 9)) ((nI (16 * sd)) + (G 4 (20 * sd)))
  let V5 := up1 V4 0 9 ((V4 0 9) + (nI 1))
  let V6 := (CL_offers V5 0 ((nI (16 * sd)) + (G 4 (20 * sd))))
  V6
def CL_servs (G : Nat → Nat → Int32) : Nat → Nat → Int32 :=
  if (G 3 0) = 0 then
    G
  else
    if (G 0 11) = 0 then
      if (G 0 12) = 0 then
        G
      else
        CL_serve G 1
    else
      if (G 0 12) = 0 then
        CL_serve G 0
      else
        if (G 0 2) = (nI 1) then
          CL_serve G 0
        else
          if (G 0 8) = 0 then
            CL_serve G 1
          else
            CL_serve G 0
def CL_serves (G : Nat → Nat → Int32) : Nat → Nat → Int32 := CL_servs G
set_option maxHeartbeats 4000000 in
set_option maxRecDepth 100000 in
theorem c_L_serves (l : Launch) (D : va_G) (Y : Nat → ClassId) (la : Nat → Nat) (G : Nat → Nat → Int32) (cn0 : vp_in (G 0 10) 63) (pd0 : vp_in (G 0 9) 20) : CtV l yL_serves wsL_serves 2 54 D (tyL Y) [lwB Y la G] [.ref (la 0), .ref (la 1), .ref (la 2), .ref (la 3), .ref (la 4), .ref (la 5), .ref (la 6), .ref (la 7)] [lwB Y la (CL_serves G)] := by
  refine CtV.intro (own := RL) (cc := cL_serves) (maxL := 11) rfl (by decide +kernel) rfl (Nat.le_of_ble_eq_true rfl) (fun p e s m args below meth c A Q hA hQ cx hr => ?_)
  obtain ⟨R0, hsv⟩ : ∃ z, CL_serves G = z := ⟨_, rfl⟩
  rw [hsv] at hQ
  have K62 : ∀ sd : Nat, sd < 2 → CL_servs G = CL_serve G sd → J p l e { frames := 2, cells := 0, slots := 0, locals := 54 } s m args below meth c 11 D A 0 0 Q [lwB Y la G] 62 [(0, .ref (la 0)), (1, .ref (la 1)), (2, .ref (la 2)), (3, .ref (la 3)), (4, .ref (la 4)), (5, .ref (la 5)), (6, .ref (la 6)), (7, .ref (la 7))] [.int (nI sd)] := by
    intro sd hsd esd
    have hsv : CL_serve G sd = R0 := by rw [← esd]; exact hsv
    refine j_istore cx (pc := 62) (lv' := [(8, .int (nI sd)), (0, .ref (la 0)), (1, .ref (la 1)), (2, .ref (la 2)), (3, .ref (la 3)), (4, .ref (la 4)), (5, .ref (la 5)), (6, .ref (la 6)), (7, .ref (la 7))]) dL_serves_62 (by decide) rfl ?_
    refine j_bipush cx (pc := 64) (v := (nI 16)) dL_serves_64 (by decide) ?_
    refine j_iload cx (pc := 66) dL_serves_66 0 rfl ?_
    refine j_imulN cx (pc := 68) dL_serves_68 ?_
    refine j_aload cx (pc := 69) dL_serves_69 5 rfl ?_
    refine j_bipush cx (pc := 71) (v := (nI 20)) dL_serves_71 (by decide) ?_
    refine j_iload cx (pc := 73) dL_serves_73 0 rfl ?_
    refine j_imulN cx (pc := 75) dL_serves_75 ?_
    refine j_iald cx (pc := 76) 0 4 0 rfl rfl rfl (by omega) (by decide) dL_serves_76 ?_
    refine j_iadd cx (pc := 77) dL_serves_77 ?_
    refine j_istore cx (pc := 78) (lv' := [(9, .int ((nI (16 * sd)) + (G 4 (20 * sd)))), (8, .int (nI sd)), (0, .ref (la 0)), (1, .ref (la 1)), (2, .ref (la 2)), (3, .ref (la 3)), (4, .ref (la 4)), (5, .ref (la 5)), (6, .ref (la 6)), (7, .ref (la 7))]) dL_serves_78 (by decide) rfl ?_
    refine j_iconst cx (pc := 80) (v := (nI 0)) dL_serves_80 (by decide) ?_
    refine j_istore cx (pc := 81) (lv' := [(10, .int (nI 0)), (9, .int ((nI (16 * sd)) + (G 4 (20 * sd)))), (8, .int (nI sd)), (0, .ref (la 0)), (1, .ref (la 1)), (2, .ref (la 2)), (3, .ref (la 3)), (4, .ref (la 4)), (5, .ref (la 5)), (6, .ref (la 6)), (7, .ref (la 7))]) dL_serves_81 (by decide) rfl ?_
    have lp1 : ∀ (n i : Nat), i + n = 19 → 0 ≤ i → J p l e { frames := 2, cells := 0, slots := 0, locals := 54 } s m args below meth c 11 D A 0 0 Q ([lwB Y la (setC G 4 (shl (G 4) (20 * sd) i))]) 83 [(10, .int (nI i)), (9, .int ((nI (16 * sd)) + (G 4 (20 * sd)))), (8, .int (nI sd)), (0, .ref (la 0)), (1, .ref (la 1)), (2, .ref (la 2)), (3, .ref (la 3)), (4, .ref (la 4)), (5, .ref (la 5)), (6, .ref (la 6)), (7, .ref (la 7))] [] := by
      intro n
      induction n with
      | zero =>
        intro i hi h0
        have hi2 : i = 19 := by omega
        subst hi2
        obtain ⟨V1, hV1⟩ : ∃ z, z = setC G 4 (shl (G 4) (20 * sd) 19) := ⟨_, rfl⟩
        have cnV1 : vp_in (V1 0 10) 63 := by rw [hV1]; exact lvp_set (by decide) cn0
        have pdV1 : vp_in (V1 0 9) 20 := by rw [hV1]; exact lvp_set (by decide) pd0
        refine j_bs (Bs' := [lwB Y la V1]) (by rw [hV1]) ?_
        refine j_iload cx (pc := 83) dL_serves_83 0 rfl ?_
        refine j_bipush cx (pc := 85) (v := (nI 19)) dL_serves_85 (by decide) ?_
        refine j_icmpN_ge cx (pc := 87) (by decide) (by decide) (tgt := 120) dL_serves_87 (by decide) (fun c87_2 => ?_) (fun c87_2 => by exfalso; revert c87_2; decide)
        refine j_aload_n cx (pc := 120) dL_serves_120 3 rfl ?_
        refine j_bipush cx (pc := 121) (v := (nI 11)) dL_serves_121 (by decide) ?_
        refine j_iload cx (pc := 123) dL_serves_123 2 rfl ?_
        refine j_iaddN cx (pc := 125) dL_serves_125 ?_
        refine j_dup2 cx (pc := 126) dL_serves_126 rfl rfl ?_
        refine j_iald cx (pc := 127) 0 0 0 rfl rfl rfl (by omega) (by decide) dL_serves_127 ?_
        refine j_iconst cx (pc := 128) (v := (nI 1)) dL_serves_128 (by decide) ?_
        refine j_isub cx (pc := 129) dL_serves_129 ?_
        obtain ⟨V2, hV2⟩ : ∃ z, z = up1 V1 0 (11 + sd) ((V1 0 (11 + sd)) - (nI 1)) := ⟨_, rfl⟩
        have cnV2 : vp_in (V2 0 10) 63 := by rw [hV2]; exact lvp_up (by omega) cnV1
        have pdV2 : vp_in (V2 0 9) 20 := by rw [hV2]; exact lvp_up (by omega) pdV1
        refine j_iast cx (pc := 130) 0 0 0 rfl rfl rfl (by omega) (by decide) (Bs' := [lwB Y la V2]) (by rw [hV2]; rfl) dL_serves_130 ?_
        refine j_aload_n cx (pc := 131) dL_serves_131 3 rfl ?_
        refine j_bipush cx (pc := 132) (v := (nI 8)) dL_serves_132 (by decide) ?_
        refine j_iload cx (pc := 134) dL_serves_134 2 rfl ?_
        obtain ⟨V3, hV3⟩ : ∃ z, z = up1 V2 0 8 (nI sd) := ⟨_, rfl⟩
        have cnV3 : vp_in (V3 0 10) 63 := by rw [hV3]; exact lvp_up (by omega) cnV2
        have pdV3 : vp_in (V3 0 9) 20 := by rw [hV3]; exact lvp_up (by omega) pdV2
        refine j_iast cx (pc := 136) 0 0 0 rfl rfl rfl (by decide) (by decide) (Bs' := [lwB Y la V3]) (by rw [hV3]; rfl) dL_serves_136 ?_
        refine j_aload cx (pc := 137) dL_serves_137 8 rfl ?_
        refine j_aload_n cx (pc := 139) dL_serves_139 3 rfl ?_
        refine j_bipush cx (pc := 140) (v := (nI 9)) dL_serves_140 (by decide) ?_
        refine j_iald cx (pc := 142) 0 0 0 rfl rfl rfl (by decide) (by decide) dL_serves_142 ?_
        have lpdV3_143 := inL pdV3
        refine j_top (show (V3 0 9) = (nI (tN (V3 0 9))) from inN pdV3) ?_
        refine j_iload cx (pc := 143) dL_serves_143 1 rfl ?_
        obtain ⟨V4, hV4⟩ : ∃ z, z = up1 V3 5 (tN (V3 0 9)) ((nI (16 * sd)) + (G 4 (20 * sd))) := ⟨_, rfl⟩
        have cnV4 : vp_in (V4 0 10) 63 := by rw [hV4]; exact lvp_up (by omega) cnV3
        have pdV4 : vp_in (V4 0 9) 20 := by rw [hV4]; exact lvp_up (by omega) pdV3
        refine j_iast cx (pc := 145) 0 5 0 rfl rfl rfl (by omega) (by decide) (Bs' := [lwB Y la V4]) (by rw [hV4]; rfl) dL_serves_145 ?_
        refine j_aload_n cx (pc := 146) dL_serves_146 3 rfl ?_
        refine j_bipush cx (pc := 147) (v := (nI 9)) dL_serves_147 (by decide) ?_
        refine j_dup2 cx (pc := 149) dL_serves_149 rfl rfl ?_
        refine j_iald cx (pc := 150) 0 0 0 rfl rfl rfl (by decide) (by decide) dL_serves_150 ?_
        refine j_iconst cx (pc := 151) (v := (nI 1)) dL_serves_151 (by decide) ?_
        refine j_iadd cx (pc := 152) dL_serves_152 ?_
        obtain ⟨V5, hV5⟩ : ∃ z, z = up1 V4 0 9 ((V4 0 9) + (nI 1)) := ⟨_, rfl⟩
        have cnV5 : vp_in (V5 0 10) 63 := by rw [hV5]; exact lvp_up (by omega) cnV4
        refine j_iast cx (pc := 153) 0 0 0 rfl rfl rfl (by decide) (by decide) (Bs' := [lwB Y la V5]) (by rw [hV5]; rfl) dL_serves_153 ?_
        refine j_iconst cx (pc := 154) (v := (nI 0)) dL_serves_154 (by decide) ?_
        refine j_iload cx (pc := 155) dL_serves_155 1 rfl ?_
        refine j_aload_n cx (pc := 157) dL_serves_157 3 rfl ?_
        refine j_aload_n cx (pc := 158) dL_serves_158 4 rfl ?_
        refine j_aload_n cx (pc := 159) dL_serves_159 5 rfl ?_
        refine j_aload_n cx (pc := 160) dL_serves_160 6 rfl ?_
        refine j_aload cx (pc := 161) dL_serves_161 9 rfl ?_
        refine j_aload cx (pc := 163) dL_serves_163 10 rfl ?_
        obtain ⟨V6, hV6⟩ : ∃ z, z = (CL_offers V5 0 ((nI (16 * sd)) + (G 4 (20 * sd)))) := ⟨_, rfl⟩
        have cnV6 : vp_in (V6 0 10) 65 := by rw [hV6]; exact (lf_offers_cn cnV5)
        refine j_csv cx (pc := 165) 8 (c_L_offers l D Y la V5 0 ((nI (16 * sd)) + (G 4 (20 * sd))) (vp_mono cnV5 (by decide)) (by omega)) gL_serves_L_offers rfl (by decide +kernel) rfl ⟨Nat.le_of_ble_eq_true rfl, Nat.le_of_ble_eq_true rfl⟩ [0] rfl (by decide) (Bs' := [lwB Y la V6]) (by rw [hV6]; rfl) A1_lw rfl (Nat.le_of_ble_eq_true rfl) dL_serves_165 ⟨Nat.zero_le _, Nat.zero_le _⟩ ?_
        subst hQ; exact j_vret cx hr (by rw [← hsv]; subst hV6; subst hV5; subst hV4; subst hV3; subst hV2; subst hV1; rfl) hA dL_serves_168
      | succ n ih =>
        intro i hi h0
        obtain ⟨V7, hV7⟩ : ∃ z, z = setC G 4 (shl (G 4) (20 * sd) i) := ⟨_, rfl⟩
        refine j_bs (Bs' := [lwB Y la V7]) (by rw [hV7]) ?_
        refine j_iload cx (pc := 83) dL_serves_83 0 rfl ?_
        refine j_bipush cx (pc := 85) (v := (nI 19)) dL_serves_85 (by decide) ?_
        refine j_icmpN_ge cx (pc := 87) (by omega) (by decide) (tgt := 120) dL_serves_87 (by decide) (fun c87_3 => by exfalso; omega) (fun c87_3 => ?_)
        refine j_aload cx (pc := 90) dL_serves_90 7 rfl ?_
        refine j_bipush cx (pc := 92) (v := (nI 20)) dL_serves_92 (by decide) ?_
        refine j_iload cx (pc := 94) dL_serves_94 2 rfl ?_
        refine j_imulN cx (pc := 96) dL_serves_96 ?_
        refine j_iload cx (pc := 97) dL_serves_97 0 rfl ?_
        refine j_iaddN cx (pc := 99) dL_serves_99 ?_
        refine j_aload cx (pc := 100) dL_serves_100 7 rfl ?_
        refine j_bipush cx (pc := 102) (v := (nI 20)) dL_serves_102 (by decide) ?_
        refine j_iload cx (pc := 104) dL_serves_104 2 rfl ?_
        refine j_imulN cx (pc := 106) dL_serves_106 ?_
        refine j_iload cx (pc := 107) dL_serves_107 0 rfl ?_
        refine j_iaddN cx (pc := 109) dL_serves_109 ?_
        refine j_iconst cx (pc := 110) (v := (nI 1)) dL_serves_110 (by decide) ?_
        refine j_iaddN cx (pc := 111) dL_serves_111 ?_
        refine j_iald cx (pc := 112) 0 4 0 rfl rfl rfl (by omega) (by decide) dL_serves_112 ?_
        obtain ⟨V8, hV8⟩ : ∃ z, z = up1 V7 4 ((20 * sd) + i) (V7 4 (((20 * sd) + i) + 1)) := ⟨_, rfl⟩
        refine j_iast cx (pc := 113) 0 4 0 rfl rfl rfl (by omega) (by decide) (Bs' := [lwB Y la V8]) (by rw [hV8]; rfl) dL_serves_113 ?_
        refine j_iinc cx (pc := 114) (v := (nI (i + 1))) (lv' := [(10, .int (nI (i + 1))), (9, .int ((nI (16 * sd)) + (G 4 (20 * sd)))), (8, .int (nI sd)), (0, .ref (la 0)), (1, .ref (la 1)), (2, .ref (la 2)), (3, .ref (la 3)), (4, .ref (la 4)), (5, .ref (la 5)), (6, .ref (la 6)), (7, .ref (la 7))]) dL_serves_114 0 rfl (show nI i + nI 1 = nI (i + 1) from nI_add _ _) (by decide) rfl ?_
        refine j_goto cx (pc := 117) (tgt := 83) dL_serves_117 (by decide) ?_
        refine j_lvm (lv' := [(10, .int (nI (i + 1))), (9, .int ((nI (16 * sd)) + (G 4 (20 * sd)))), (8, .int (nI sd)), (0, .ref (la 0)), (1, .ref (la 1)), (2, .ref (la 2)), (3, .ref (la 3)), (4, .ref (la 4)), (5, .ref (la 5)), (6, .ref (la 6)), (7, .ref (la 7))]) (by intro z hz; simp only [List.mem_cons, List.not_mem_nil, or_false] at hz ⊢; rcases hz with rfl | rfl | rfl | rfl | rfl | rfl | rfl | rfl | rfl | rfl | rfl <;> simp) ?_
        refine j_bs (Bs' := [lwB Y la (setC G 4 (shl (G 4) (20 * sd) (i + 1)))]) (by subst hV8; subst hV7; rw [shl_s G 4 _ i]) ?_
        exact ih (i + 1) (by omega) (by omega)
    refine j_bs (Bs' := [lwB Y la (setC G 4 (shl (G 4) (20 * sd) 0))]) (by rw [shl_0 G 4 _]) ?_
    refine j_lvm (lv' := [(10, .int (nI 0)), (9, .int ((nI (16 * sd)) + (G 4 (20 * sd)))), (8, .int (nI sd)), (0, .ref (la 0)), (1, .ref (la 1)), (2, .ref (la 2)), (3, .ref (la 3)), (4, .ref (la 4)), (5, .ref (la 5)), (6, .ref (la 6)), (7, .ref (la 7))]) (by intro z hz; simp only [List.mem_cons, List.not_mem_nil, or_false] at hz ⊢; rcases hz with rfl | rfl | rfl | rfl | rfl | rfl | rfl | rfl | rfl | rfl | rfl <;> simp) ?_
    exact lp1 (19 - 0) 0 (by omega) (Nat.le_refl _)
  refine j_aload_n cx (pc := 0) dL_serves_0 3 rfl ?_
  refine j_iconst cx (pc := 1) (v := (nI 0)) dL_serves_1 (by decide) ?_
  refine j_iald cx (pc := 2) 0 3 0 rfl rfl rfl (by decide) (by decide) dL_serves_2 ?_
  refine j_if_eq cx (pc := 3) (tgt := 20) dL_serves_3 (by decide) (fun c3_1 => ?_) (fun c3_1 => ?_)
  · skip
    subst hQ; exact j_vret cx hr (by rw [← hsv]; simp only [CL_serves, CL_servs, if_pos c3_1]) hA dL_serves_20
  · skip
    refine j_aload_n cx (pc := 6) dL_serves_6 0 rfl ?_
    refine j_bipush cx (pc := 7) (v := (nI 11)) dL_serves_7 (by decide) ?_
    refine j_iald cx (pc := 9) 0 0 0 rfl rfl rfl (by decide) (by decide) dL_serves_9 ?_
    refine j_if_ne cx (pc := 10) (tgt := 21) dL_serves_10 (by decide) (fun c10_2 => ?_) (fun c10_2 => ?_)
    · skip
      refine j_aload_n cx (pc := 21) dL_serves_21 0 rfl ?_
      refine j_bipush cx (pc := 22) (v := (nI 11)) dL_serves_22 (by decide) ?_
      refine j_iald cx (pc := 24) 0 0 0 rfl rfl rfl (by decide) (by decide) dL_serves_24 ?_
      refine j_if_ne cx (pc := 25) (tgt := 32) dL_serves_25 (by decide) (fun c25_3 => ?_) (fun c25_3 => by exfalso; first | omega | exact absurd c10_2 c25_3 | exact absurd c25_3 c10_2)
      refine j_aload_n cx (pc := 32) dL_serves_32 0 rfl ?_
      refine j_bipush cx (pc := 33) (v := (nI 12)) dL_serves_33 (by decide) ?_
      refine j_iald cx (pc := 35) 0 0 0 rfl rfl rfl (by decide) (by decide) dL_serves_35 ?_
      refine j_if_eq cx (pc := 36) (tgt := 46) dL_serves_36 (by decide) (fun c36_4 => ?_) (fun c36_4 => ?_)
      · skip
        refine j_iconst cx (pc := 46) (v := (nI 0)) dL_serves_46 (by decide) ?_
        refine j_goto cx (pc := 47) (tgt := 62) dL_serves_47 (by decide) ?_
        exact K62 0 (by decide) (by simp only [CL_servs, if_neg c3_1, if_neg c10_2, if_pos c36_4])
      · skip
        refine j_aload_n cx (pc := 39) dL_serves_39 0 rfl ?_
        refine j_iconst cx (pc := 40) (v := (nI 2)) dL_serves_40 (by decide) ?_
        refine j_iald cx (pc := 41) 0 0 0 rfl rfl rfl (by decide) (by decide) dL_serves_41 ?_
        refine j_iconst cx (pc := 42) (v := (nI 1)) dL_serves_42 (by decide) ?_
        refine j_icmp_ne cx (pc := 43) (tgt := 50) dL_serves_43 (by decide) (fun c43_5 => ?_) (fun c43_5 => ?_)
        · skip
          refine j_aload_n cx (pc := 50) dL_serves_50 0 rfl ?_
          refine j_bipush cx (pc := 51) (v := (nI 8)) dL_serves_51 (by decide) ?_
          refine j_iald cx (pc := 53) 0 0 0 rfl rfl rfl (by decide) (by decide) dL_serves_53 ?_
          refine j_if_ne cx (pc := 54) (tgt := 61) dL_serves_54 (by decide) (fun c54_6 => ?_) (fun c54_6 => ?_)
          · skip
            refine j_iconst cx (pc := 61) (v := (nI 0)) dL_serves_61 (by decide) ?_
            exact K62 0 (by decide) (by simp only [CL_servs, if_neg c3_1, if_neg c10_2, if_neg c36_4, if_neg c43_5, if_neg c54_6])
          · skip
            refine j_iconst cx (pc := 57) (v := (nI 1)) dL_serves_57 (by decide) ?_
            refine j_goto cx (pc := 58) (tgt := 62) dL_serves_58 (by decide) ?_
            exact K62 1 (by decide) (by simp only [CL_servs, if_neg c3_1, if_neg c10_2, if_neg c36_4, if_neg c43_5, if_pos c54_6])
        · skip
          refine j_iconst cx (pc := 46) (v := (nI 0)) dL_serves_46 (by decide) ?_
          refine j_goto cx (pc := 47) (tgt := 62) dL_serves_47 (by decide) ?_
          exact K62 0 (by decide) (by simp only [CL_servs, if_neg c3_1, if_neg c10_2, if_neg c36_4, if_pos c43_5])
    · skip
      refine j_aload_n cx (pc := 13) dL_serves_13 0 rfl ?_
      refine j_bipush cx (pc := 14) (v := (nI 12)) dL_serves_14 (by decide) ?_
      refine j_iald cx (pc := 16) 0 0 0 rfl rfl rfl (by decide) (by decide) dL_serves_16 ?_
      refine j_if_ne cx (pc := 17) (tgt := 21) dL_serves_17 (by decide) (fun c17_7 => ?_) (fun c17_7 => ?_)
      · skip
        refine j_aload_n cx (pc := 21) dL_serves_21 0 rfl ?_
        refine j_bipush cx (pc := 22) (v := (nI 11)) dL_serves_22 (by decide) ?_
        refine j_iald cx (pc := 24) 0 0 0 rfl rfl rfl (by decide) (by decide) dL_serves_24 ?_
        refine j_if_ne cx (pc := 25) (tgt := 32) dL_serves_25 (by decide) (fun c25_8 => by exfalso; first | omega | exact absurd c10_2 c25_8 | exact absurd c25_8 c10_2) (fun c25_8 => ?_)
        refine j_iconst cx (pc := 28) (v := (nI 1)) dL_serves_28 (by decide) ?_
        refine j_goto cx (pc := 29) (tgt := 62) dL_serves_29 (by decide) ?_
        exact K62 1 (by decide) (by simp only [CL_servs, if_neg c3_1, if_pos c10_2, if_neg c17_7])
      · skip
        subst hQ; exact j_vret cx hr (by rw [← hsv]; simp only [CL_serves, CL_servs, if_neg c3_1, if_pos c10_2, if_pos c17_7]) hA dL_serves_20
