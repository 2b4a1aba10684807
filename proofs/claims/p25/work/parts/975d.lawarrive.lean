/-- a stretch of two rows moved down by one -/
def shr (f : Nat → Int32) (a e : Nat) : Nat → Int32 := fun j => if a ≤ j ∧ j < e then f (j + 1) else f j
theorem shr_n (f : Nat → Int32) (a : Nat) : shr f a a = f := funext fun j => if_neg (by omega)
theorem shr_s (f : Nat → Int32) (a i : Nat) (h : a ≤ i) : upd (shr f a i) i (shr f a i (i + 1)) = shr f a (i + 1) := by
  funext j
  show (if j = i then (if a ≤ i + 1 ∧ i + 1 < i then _ else _) else (if a ≤ j ∧ j < i then _ else _)) = (if a ≤ j ∧ j < i + 1 then _ else _)
  rw [if_neg (show ¬ (a ≤ i + 1 ∧ i + 1 < i) by omega)]
  by_cases h2 : j = i
  · subst h2; rw [if_pos rfl, if_pos (by omega)]
  · rw [if_neg h2]
    by_cases h3 : a ≤ j ∧ j < i
    · rw [if_pos h3, if_pos (by omega)]
    · rw [if_neg h3, if_neg (by omega)]
def sh2 (V : Nat → Nat → Int32) (a i : Nat) : Nat → Nat → Int32 := setC (setC V 6 (shr (V 6) a i)) 7 (shr (V 7) a i)
theorem sh2_0 (V : Nat → Nat → Int32) (a : Nat) : sh2 V a a = V := by
  unfold sh2
  rw [shr_n, shr_n, setC_self, setC_self]
theorem sh2_s (V : Nat → Nat → Int32) (a i : Nat) (h : a ≤ i) : up1 (up1 (sh2 V a i) 6 i (sh2 V a i 6 (i + 1))) 7 i (up1 (sh2 V a i) 6 i (sh2 V a i 6 (i + 1)) 7 (i + 1)) = sh2 V a (i + 1) := by
  have e6 : sh2 V a i 6 = shr (V 6) a i := by unfold sh2; rw [setC_ne (by decide), setC_eq]
  have e7 : sh2 V a i 7 = shr (V 7) a i := by unfold sh2; rw [setC_eq]
  have e7' : up1 (sh2 V a i) 6 i (sh2 V a i 6 (i + 1)) 7 = shr (V 7) a i := by
    show setC (sh2 V a i) 6 _ 7 = _
    rw [setC_ne (by decide), e7]
  funext c
  show setC (up1 (sh2 V a i) 6 i (sh2 V a i 6 (i + 1))) 7 (upd (up1 (sh2 V a i) 6 i (sh2 V a i 6 (i + 1)) 7) i _) c = _
  rw [e7', e6, shr_s _ _ _ h]
  by_cases c7 : c = 7
  · subst c7
    rw [setC_eq]; unfold sh2; rw [setC_eq]
  · rw [setC_ne c7]
    by_cases c6 : c = 6
    · subst c6
      show setC (sh2 V a i) 6 (upd (sh2 V a i 6) i _) 6 = _
      rw [setC_eq, e6, shr_s _ _ _ h]
      unfold sh2
      rw [setC_ne (by decide), setC_eq]
    · show setC (sh2 V a i) 6 _ c = _
      rw [setC_ne c6]
      unfold sh2
      rw [setC_ne c7, setC_ne c6, setC_ne c7, setC_ne c6]
theorem sh2_ne {V : Nat → Nat → Int32} {a i c j : Nat} (h6 : c ≠ 6) (h7 : c ≠ 7) : sh2 V a i c j = V c j := by
  unfold sh2
  rw [setC_ne h7, setC_ne h6]
theorem lvp_sh2 {V : Nat → Nat → Int32} {a i c j n : Nat} (h6 : c ≠ 6) (h7 : c ≠ 7) (hn : vp_in (V c j) n) : vp_in (sh2 V a i c j) n := by rw [sh2_ne h6 h7]; exact hn
def CL_arr (G : Nat → Nat → Int32) (r : Nat) : Nat → Nat → Int32 :=
  let V1 := up1 G 0 4 (G 6 r)
  let lk := ((tN (G 7 r)) / 96)
  let wr := (((tN (G 7 r)) / 32) % 3)
  let vl := ((tN (G 7 r)) % 32)
  let V2 := up1 V1 0 10 ((V1 0 10) - (nI 1))
  let V3 := sh2 V2 r (tN (G 0 10) - 1)
  let V4 := up1 V3 0 7 ((V3 0 7) + (nI 1))
  if wr = 0 then
    let V8 := up1 V4 2 ((6 * lk) + 3) (nI vl)
    if vl = 0 then
      let V12 := up1 V8 2 ((6 * lk) + 4) (nI 0)
      let V13 := (CL_makes V12 lk 1 (nI 0) (nI 0))
      V13
    else
      if lk = (tN (G 0 3)) then
        let V11 := (CL_notes V8)
        V11
      else
        if (V8 3 (21 + lk)) < 0 then
          let V9 := (CL_takes V8 lk)
          V9
        else
          let V10 := up1 V8 3 ((3 * lk) + 1) (nI 1)
          V10
  else
    if wr = 1 then
      let V6 := up1 V4 2 ((6 * lk) + 1) (nI vl)
      let V7 := (CL_answered V6 lk (nI vl))
      V7
    else
      let V5 := up1 V4 2 ((6 * lk) + 5) (nI vl)
      V5
def CL_arrives (G : Nat → Nat → Int32) (untl : Int32) : Int32 × (Nat → Nat → Int32) :=
  if nxF (G 6) (tN (G 0 10)) (-1) < 0 then (nI 0, G) else if untl < G 6 (tN (nxF (G 6) (tN (G 0 10)) (-1))) then (nI 0, G) else (nI 1, CL_arr G (tN (nxF (G 6) (tN (G 0 10)) (-1))))
theorem nxF_ok {t : Nat → Int32} {n : Nat} (hn : n < 2 ^ 31) : ∀ (k : Nat) (x : Int32), k ≤ n → (x < 0 ∨ ∃ j, j < n ∧ x = nI j) → (nxF t k x < 0 ∨ ∃ j, j < n ∧ nxF t k x = nI j)
  | 0, x, _, h => h
  | k + 1, x, hk, h => by
    unfold nxF
    refine nxF_ok hn k _ (by omega) ?_
    split
    · exact Or.inr ⟨k, by omega, rfl⟩
    · split
      · exact h
      · exact Or.inr ⟨k, by omega, rfl⟩
set_option maxHeartbeats 4000000 in
set_option maxRecDepth 100000 in
theorem c_L_arrives (l : Launch) (D : va_G) (Y : Nat → ClassId) (la : Nat → Nat) (G : Nat → Nat → Int32) (untl : Int32) (cn0 : vp_in (G 0 10) 62) (pd0 : vp_in (G 0 9) 20) (sg0 : vp_in (G 0 3) 7) (hsig : ∀ k, k < tN (G 0 10) → vp_in (G 7 k) 672 ∧ tN (G 7 k) / 96 ≤ tN (G 0 3)) : CtI l yL_arrives wsL_arrives 4 113 D (tyL Y) [lwB Y la G] [.int untl, .ref (la 0), .ref (la 1), .ref (la 2), .ref (la 3), .ref (la 4), .ref (la 5), .ref (la 6), .ref (la 7), .ref (la 8)] (CL_arrives G untl).1 [lwB Y la (CL_arrives G untl).2] := by
  refine CtI.intro (own := RL) (cc := cL_arrives) (maxL := 15) rfl (by decide +kernel) rfl (Nat.le_of_ble_eq_true rfl) (fun p e s m args below meth c A Q hA hQ cx hr => ?_)
  have hcb := inL cn0
  have hsb := inL sg0
  obtain ⟨R1, hR1⟩ : ∃ z, (CL_arrives G untl).1 = z := ⟨_, rfl⟩
  obtain ⟨R0, hR0⟩ : ∃ z, (CL_arrives G untl).2 = z := ⟨_, rfl⟩
  rw [hR1, hR0] at hQ
  have K65 : ∀ r : Nat, r < tN (G 0 10) → R1 = nI 1 → CL_arr G r = R0 → J p l e { frames := 4, cells := 0, slots := 0, locals := 113 } s m args below meth c 15 D A 0 0 Q [lwB Y la G] 65 [(10, .int (nI r)), (0, .int untl), (1, .ref (la 0)), (2, .ref (la 1)), (3, .ref (la 2)), (4, .ref (la 3)), (5, .ref (la 4)), (6, .ref (la 5)), (7, .ref (la 6)), (8, .ref (la 7)), (9, .ref (la 8))] [] := by
    intro r hr1 hv1 hsv
    subst hv1
    obtain ⟨hs7, hle⟩ := hsig r hr1
    have hsl := inL hs7
    refine j_aload_n cx (pc := 65) dL_arrives_65 2 rfl ?_
    refine j_iconst cx (pc := 66) (v := (nI 4)) dL_arrives_66 (by decide) ?_
    refine j_aload cx (pc := 67) dL_arrives_67 8 rfl ?_
    refine j_iload cx (pc := 69) dL_arrives_69 0 rfl ?_
    refine j_iald cx (pc := 71) 0 6 0 rfl rfl rfl (by omega) (by decide) dL_arrives_71 ?_
    obtain ⟨V1, hV1⟩ : ∃ z, z = up1 G 0 4 (G 6 r) := ⟨_, rfl⟩
    have cnV1 : vp_in (V1 0 10) 62 := by rw [hV1]; exact lvp_up (by omega) cn0
    have pdV1 : vp_in (V1 0 9) 20 := by rw [hV1]; exact lvp_up (by omega) pd0
    have sgV1 : vp_in (V1 0 3) 7 := by rw [hV1]; exact lvp_up (by omega) sg0
    refine j_iast cx (pc := 72) 0 0 0 rfl rfl rfl (by decide) (by decide) (Bs' := [lwB Y la V1]) (by rw [hV1]; rfl) dL_arrives_72 ?_
    refine j_aload cx (pc := 73) dL_arrives_73 9 rfl ?_
    refine j_iload cx (pc := 75) dL_arrives_75 0 rfl ?_
    refine j_iald cx (pc := 77) 0 7 0 rfl rfl rfl (by omega) (by decide) dL_arrives_77 ?_
    refine j_top (show (V1 7 r) = (nI (tN (G 7 r))) from (by rw [hV1, lup_ne (by omega)]; exact inN hs7)) ?_
    refine j_bipush cx (pc := 78) (v := (nI 96)) dL_arrives_78 (by decide) ?_
    refine j_idivN cx (pc := 80) (by omega) (by omega) (by omega) dL_arrives_80 ?_
    obtain ⟨lk, hlk⟩ : ∃ z : Nat, z = ((tN (G 7 r)) / 96) := ⟨_, rfl⟩
    refine j_top (show (nI ((tN (G 7 r)) / 96)) = (nI lk) from (by rw [hlk])) ?_
    have lkb : lk < 7 := by omega
    refine j_istore cx (pc := 81) (lv' := [(11, .int (nI lk)), (10, .int (nI r)), (0, .int untl), (1, .ref (la 0)), (2, .ref (la 1)), (3, .ref (la 2)), (4, .ref (la 3)), (5, .ref (la 4)), (6, .ref (la 5)), (7, .ref (la 6)), (8, .ref (la 7)), (9, .ref (la 8))]) dL_arrives_81 (by decide) rfl ?_
    refine j_aload cx (pc := 83) dL_arrives_83 10 rfl ?_
    refine j_iload cx (pc := 85) dL_arrives_85 1 rfl ?_
    refine j_iald cx (pc := 87) 0 7 0 rfl rfl rfl (by omega) (by decide) dL_arrives_87 ?_
    refine j_top (show (V1 7 r) = (nI (tN (G 7 r))) from (by rw [hV1, lup_ne (by omega)]; exact inN hs7)) ?_
    refine j_bipush cx (pc := 88) (v := (nI 32)) dL_arrives_88 (by decide) ?_
    refine j_idivN cx (pc := 90) (by omega) (by omega) (by omega) dL_arrives_90 ?_
    refine j_iconst cx (pc := 91) (v := (nI 3)) dL_arrives_91 (by decide) ?_
    refine j_iremN cx (pc := 92) (by omega) (by omega) (by omega) dL_arrives_92 ?_
    obtain ⟨wr, hwr⟩ : ∃ z : Nat, z = (((tN (G 7 r)) / 32) % 3) := ⟨_, rfl⟩
    refine j_top (show (nI (((tN (G 7 r)) / 32) % 3)) = (nI wr) from (by rw [hwr])) ?_
    have wrb : wr < 3 := by omega
    refine j_istore cx (pc := 93) (lv' := [(12, .int (nI wr)), (11, .int (nI lk)), (10, .int (nI r)), (0, .int untl), (1, .ref (la 0)), (2, .ref (la 1)), (3, .ref (la 2)), (4, .ref (la 3)), (5, .ref (la 4)), (6, .ref (la 5)), (7, .ref (la 6)), (8, .ref (la 7)), (9, .ref (la 8))]) dL_arrives_93 (by decide) rfl ?_
    refine j_aload cx (pc := 95) dL_arrives_95 11 rfl ?_
    refine j_iload cx (pc := 97) dL_arrives_97 2 rfl ?_
    refine j_iald cx (pc := 99) 0 7 0 rfl rfl rfl (by omega) (by decide) dL_arrives_99 ?_
    refine j_top (show (V1 7 r) = (nI (tN (G 7 r))) from (by rw [hV1, lup_ne (by omega)]; exact inN hs7)) ?_
    refine j_bipush cx (pc := 100) (v := (nI 32)) dL_arrives_100 (by decide) ?_
    refine j_iremN cx (pc := 102) (by omega) (by omega) (by omega) dL_arrives_102 ?_
    obtain ⟨vl, hvl⟩ : ∃ z : Nat, z = ((tN (G 7 r)) % 32) := ⟨_, rfl⟩
    refine j_top (show (nI ((tN (G 7 r)) % 32)) = (nI vl) from (by rw [hvl])) ?_
    have vlb : vl < 32 := by omega
    refine j_istore cx (pc := 103) (lv' := [(13, .int (nI vl)), (12, .int (nI wr)), (11, .int (nI lk)), (10, .int (nI r)), (0, .int untl), (1, .ref (la 0)), (2, .ref (la 1)), (3, .ref (la 2)), (4, .ref (la 3)), (5, .ref (la 4)), (6, .ref (la 5)), (7, .ref (la 6)), (8, .ref (la 7)), (9, .ref (la 8))]) dL_arrives_103 (by decide) rfl ?_
    refine j_aload_n cx (pc := 105) dL_arrives_105 5 rfl ?_
    refine j_bipush cx (pc := 106) (v := (nI 10)) dL_arrives_106 (by decide) ?_
    refine j_dup2 cx (pc := 108) dL_arrives_108 rfl rfl ?_
    refine j_iald cx (pc := 109) 0 0 0 rfl rfl rfl (by decide) (by decide) dL_arrives_109 ?_
    refine j_iconst cx (pc := 110) (v := (nI 1)) dL_arrives_110 (by decide) ?_
    refine j_isub cx (pc := 111) dL_arrives_111 ?_
    obtain ⟨V2, hV2⟩ : ∃ z, z = up1 V1 0 10 ((V1 0 10) - (nI 1)) := ⟨_, rfl⟩
    have pdV2 : vp_in (V2 0 9) 20 := by rw [hV2]; exact lvp_up (by omega) pdV1
    have sgV2 : vp_in (V2 0 3) 7 := by rw [hV2]; exact lvp_up (by omega) sgV1
    have e10 : V2 0 10 = nI (tN (G 0 10) - 1) := by rw [hV2, up1_eq, show V1 0 10 = G 0 10 from (by rw [hV1, lup_ne (by omega)]), ← pk_sub (by omega), ← inN cn0]
    have cnV2 : vp_in (V2 0 10) 61 := by rw [e10]; exact vp_in_nI (by omega) (by decide)
    refine j_iast cx (pc := 112) 0 0 0 rfl rfl rfl (by decide) (by decide) (Bs' := [lwB Y la V2]) (by rw [hV2]; rfl) dL_arrives_112 ?_
    refine j_iload cx (pc := 113) dL_arrives_113 3 rfl ?_
    refine j_istore cx (pc := 115) (lv' := [(14, .int (nI r)), (13, .int (nI vl)), (12, .int (nI wr)), (11, .int (nI lk)), (10, .int (nI r)), (0, .int untl), (1, .ref (la 0)), (2, .ref (la 1)), (3, .ref (la 2)), (4, .ref (la 3)), (5, .ref (la 4)), (6, .ref (la 5)), (7, .ref (la 6)), (8, .ref (la 7)), (9, .ref (la 8))]) dL_arrives_115 (by decide) rfl ?_
    have lp1 : ∀ (n i : Nat), i + n = (tN (G 0 10) - 1) → r ≤ i → J p l e { frames := 4, cells := 0, slots := 0, locals := 113 } s m args below meth c 15 D A 0 0 Q ([lwB Y la (sh2 V2 r i)]) 117 [(14, .int (nI i)), (13, .int (nI vl)), (12, .int (nI wr)), (11, .int (nI lk)), (10, .int (nI r)), (0, .int untl), (1, .ref (la 0)), (2, .ref (la 1)), (3, .ref (la 2)), (4, .ref (la 3)), (5, .ref (la 4)), (6, .ref (la 5)), (7, .ref (la 6)), (8, .ref (la 7)), (9, .ref (la 8))] [] := by
      intro n
      induction n with
      | zero =>
        intro i hi h0
        have hi2 : i = (tN (G 0 10) - 1) := by omega
        subst hi2
        obtain ⟨V3, hV3⟩ : ∃ z, z = sh2 V2 r (tN (G 0 10) - 1) := ⟨_, rfl⟩
        have cnV3 : vp_in (V3 0 10) 61 := by rw [hV3]; exact lvp_sh2 (by decide) (by decide) cnV2
        have pdV3 : vp_in (V3 0 9) 20 := by rw [hV3]; exact lvp_sh2 (by decide) (by decide) pdV2
        have sgV3 : vp_in (V3 0 3) 7 := by rw [hV3]; exact lvp_sh2 (by decide) (by decide) sgV2
        refine j_bs (Bs' := [lwB Y la V3]) (by rw [hV3]) ?_
        refine j_iload cx (pc := 117) dL_arrives_117 0 rfl ?_
        refine j_aload_n cx (pc := 119) dL_arrives_119 6 rfl ?_
        refine j_bipush cx (pc := 120) (v := (nI 10)) dL_arrives_120 (by decide) ?_
        refine j_iald cx (pc := 122) 0 0 0 rfl rfl rfl (by decide) (by decide) dL_arrives_122 ?_
        refine j_top (show (V3 0 10) = (nI (tN (G 0 10) - 1)) from (by rw [hV3, sh2_ne (by decide) (by decide)]; exact e10)) ?_
        refine j_icmpN_ge cx (pc := 123) (by omega) (by omega) (tgt := 156) dL_arrives_123 (by decide) (fun c123_2 => ?_) (fun c123_2 => by exfalso; omega)
        refine j_aload_n cx (pc := 156) dL_arrives_156 6 rfl ?_
        refine j_bipush cx (pc := 157) (v := (nI 7)) dL_arrives_157 (by decide) ?_
        refine j_dup2 cx (pc := 159) dL_arrives_159 rfl rfl ?_
        refine j_iald cx (pc := 160) 0 0 0 rfl rfl rfl (by decide) (by decide) dL_arrives_160 ?_
        refine j_iconst cx (pc := 161) (v := (nI 1)) dL_arrives_161 (by decide) ?_
        refine j_iadd cx (pc := 162) dL_arrives_162 ?_
        obtain ⟨V4, hV4⟩ : ∃ z, z = up1 V3 0 7 ((V3 0 7) + (nI 1)) := ⟨_, rfl⟩
        have cnV4 : vp_in (V4 0 10) 61 := by rw [hV4]; exact lvp_up (by omega) cnV3
        have pdV4 : vp_in (V4 0 9) 20 := by rw [hV4]; exact lvp_up (by omega) pdV3
        have sgV4 : vp_in (V4 0 3) 7 := by rw [hV4]; exact lvp_up (by omega) sgV3
        refine j_iast cx (pc := 163) 0 0 0 rfl rfl rfl (by decide) (by decide) (Bs' := [lwB Y la V4]) (by rw [hV4]; rfl) dL_arrives_163 ?_
        refine j_aload_n cx (pc := 164) dL_arrives_164 8 rfl ?_
        refine j_bipush cx (pc := 165) (v := (nI 6)) dL_arrives_165 (by decide) ?_
        refine j_iload cx (pc := 167) dL_arrives_167 3 rfl ?_
        refine j_imulN cx (pc := 169) dL_arrives_169 ?_
        refine j_iload cx (pc := 170) dL_arrives_170 2 rfl ?_
        refine j_ifN_ne cx (pc := 172) (by omega) (tgt := 179) dL_arrives_172 (by decide) (fun c172_3 => ?_) (fun c172_3 => ?_)
        · skip
          refine j_iload cx (pc := 179) dL_arrives_179 2 rfl ?_
          refine j_iconst cx (pc := 181) (v := (nI 1)) dL_arrives_181 (by decide) ?_
          refine j_icmpN_ne cx (pc := 182) (by omega) (by decide) (tgt := 189) dL_arrives_182 (by decide) (fun c182_4 => ?_) (fun c182_4 => ?_)
          · skip
            refine j_iconst cx (pc := 189) (v := (nI 5)) dL_arrives_189 (by decide) ?_
            refine j_iaddN cx (pc := 190) dL_arrives_190 ?_
            refine j_iload cx (pc := 191) dL_arrives_191 1 rfl ?_
            obtain ⟨V5, hV5⟩ : ∃ z, z = up1 V4 2 ((6 * lk) + 5) (nI vl) := ⟨_, rfl⟩
            have cnV5 : vp_in (V5 0 10) 61 := by rw [hV5]; exact lvp_up (by omega) cnV4
            have pdV5 : vp_in (V5 0 9) 20 := by rw [hV5]; exact lvp_up (by omega) pdV4
            have sgV5 : vp_in (V5 0 3) 7 := by rw [hV5]; exact lvp_up (by omega) sgV4
            refine j_iast cx (pc := 193) 0 2 0 rfl rfl rfl (by omega) (by decide) (Bs' := [lwB Y la V5]) (by rw [hV5]; rfl) dL_arrives_193 ?_
            refine j_iload cx (pc := 194) dL_arrives_194 2 rfl ?_
            refine j_iconst cx (pc := 196) (v := (nI 1)) dL_arrives_196 (by decide) ?_
            refine j_icmpN_ne cx (pc := 197) (by omega) (by decide) (tgt := 223) dL_arrives_197 (by decide) (fun c197_5 => ?_) (fun c197_5 => by exfalso; exact absurd c197_5 (by assumption))
            refine j_iload cx (pc := 223) dL_arrives_223 2 rfl ?_
            refine j_ifN_ne cx (pc := 225) (by omega) (tgt := 260) dL_arrives_225 (by decide) (fun c225_6 => ?_) (fun c225_6 => by exfalso; exact absurd c225_6 (by assumption))
            refine j_iload cx (pc := 260) dL_arrives_260 2 rfl ?_
            refine j_ifN_ne cx (pc := 262) (by omega) (tgt := 290) dL_arrives_262 (by decide) (fun c262_7 => ?_) (fun c262_7 => by exfalso; exact absurd c262_7 (by assumption))
            refine j_iload cx (pc := 290) dL_arrives_290 2 rfl ?_
            refine j_ifN_ne cx (pc := 292) (by omega) (tgt := 319) dL_arrives_292 (by decide) (fun c292_8 => ?_) (fun c292_8 => by exfalso; exact absurd c292_8 (by assumption))
            refine j_iload cx (pc := 319) dL_arrives_319 2 rfl ?_
            refine j_ifN_ne cx (pc := 321) (by omega) (tgt := 338) dL_arrives_321 (by decide) (fun c321_9 => ?_) (fun c321_9 => by exfalso; exact absurd c321_9 (by assumption))
            refine j_iconst cx (pc := 338) (v := (nI 1)) dL_arrives_338 (by decide) ?_
            subst hQ; exact j_zret cx hr rfl rfl (by rw [← hsv]; subst hV5; subst hV4; subst hV3; subst hV2; subst hvl; subst hwr; subst hlk; subst hV1; simp only [CL_arr, if_neg c172_3, if_neg c182_4]) hA dL_arrives_339
          · skip
            refine j_iconst cx (pc := 185) (v := (nI 1)) dL_arrives_185 (by decide) ?_
            refine j_goto cx (pc := 186) (tgt := 190) dL_arrives_186 (by decide) ?_
            refine j_iaddN cx (pc := 190) dL_arrives_190 ?_
            refine j_iload cx (pc := 191) dL_arrives_191 1 rfl ?_
            obtain ⟨V6, hV6⟩ : ∃ z, z = up1 V4 2 ((6 * lk) + 1) (nI vl) := ⟨_, rfl⟩
            have cnV6 : vp_in (V6 0 10) 61 := by rw [hV6]; exact lvp_up (by omega) cnV4
            have pdV6 : vp_in (V6 0 9) 20 := by rw [hV6]; exact lvp_up (by omega) pdV4
            have sgV6 : vp_in (V6 0 3) 7 := by rw [hV6]; exact lvp_up (by omega) sgV4
            refine j_iast cx (pc := 193) 0 2 0 rfl rfl rfl (by omega) (by decide) (Bs' := [lwB Y la V6]) (by rw [hV6]; rfl) dL_arrives_193 ?_
            refine j_iload cx (pc := 194) dL_arrives_194 2 rfl ?_
            refine j_iconst cx (pc := 196) (v := (nI 1)) dL_arrives_196 (by decide) ?_
            refine j_icmpN_ne cx (pc := 197) (by omega) (by decide) (tgt := 223) dL_arrives_197 (by decide) (fun c197_10 => by exfalso; exact c197_10 (by assumption)) (fun c197_10 => ?_)
            refine j_iload cx (pc := 200) dL_arrives_200 3 rfl ?_
            refine j_iload cx (pc := 202) dL_arrives_202 1 rfl ?_
            refine j_aload_n cx (pc := 204) dL_arrives_204 6 rfl ?_
            refine j_aload_n cx (pc := 205) dL_arrives_205 7 rfl ?_
            refine j_aload_n cx (pc := 206) dL_arrives_206 8 rfl ?_
            refine j_aload cx (pc := 207) dL_arrives_207 9 rfl ?_
            refine j_aload cx (pc := 209) dL_arrives_209 10 rfl ?_
            refine j_aload cx (pc := 211) dL_arrives_211 11 rfl ?_
            refine j_aload cx (pc := 213) dL_arrives_213 12 rfl ?_
            refine j_aload cx (pc := 215) dL_arrives_215 13 rfl ?_
            obtain ⟨V7, hV7⟩ : ∃ z, z = (CL_answered V6 lk (nI vl)) := ⟨_, rfl⟩
            refine j_csv cx (pc := 217) 10 (c_L_answered l D Y la V6 lk (nI vl) (vp_mono cnV6 (by decide)) (vp_mono pdV6 (by decide)) (by omega)) gL_arrives_L_answered rfl (by decide +kernel) rfl ⟨Nat.le_of_ble_eq_true rfl, Nat.le_of_ble_eq_true rfl⟩ [0] rfl (by decide) (Bs' := [lwB Y la V7]) (by rw [hV7]; rfl) A1_lw rfl (Nat.le_of_ble_eq_true rfl) dL_arrives_217 ⟨Nat.zero_le _, Nat.zero_le _⟩ ?_
            refine j_goto cx (pc := 220) (tgt := 338) dL_arrives_220 (by decide) ?_
            refine j_iconst cx (pc := 338) (v := (nI 1)) dL_arrives_338 (by decide) ?_
            subst hQ; exact j_zret cx hr rfl rfl (by rw [← hsv]; subst hV7; subst hV6; subst hV4; subst hV3; subst hV2; subst hvl; subst hwr; subst hlk; subst hV1; simp only [CL_arr, if_neg c172_3, if_pos c182_4]) hA dL_arrives_339
        · skip
          refine j_iconst cx (pc := 175) (v := (nI 3)) dL_arrives_175 (by decide) ?_
          refine j_goto cx (pc := 176) (tgt := 190) dL_arrives_176 (by decide) ?_
          refine j_iaddN cx (pc := 190) dL_arrives_190 ?_
          refine j_iload cx (pc := 191) dL_arrives_191 1 rfl ?_
          obtain ⟨V8, hV8⟩ : ∃ z, z = up1 V4 2 ((6 * lk) + 3) (nI vl) := ⟨_, rfl⟩
          have cnV8 : vp_in (V8 0 10) 61 := by rw [hV8]; exact lvp_up (by omega) cnV4
          have pdV8 : vp_in (V8 0 9) 20 := by rw [hV8]; exact lvp_up (by omega) pdV4
          have sgV8 : vp_in (V8 0 3) 7 := by rw [hV8]; exact lvp_up (by omega) sgV4
          refine j_iast cx (pc := 193) 0 2 0 rfl rfl rfl (by omega) (by decide) (Bs' := [lwB Y la V8]) (by rw [hV8]; rfl) dL_arrives_193 ?_
          refine j_iload cx (pc := 194) dL_arrives_194 2 rfl ?_
          refine j_iconst cx (pc := 196) (v := (nI 1)) dL_arrives_196 (by decide) ?_
          refine j_icmpN_ne cx (pc := 197) (by omega) (by decide) (tgt := 223) dL_arrives_197 (by decide) (fun c197_11 => ?_) (fun c197_11 => by exfalso; omega)
          refine j_iload cx (pc := 223) dL_arrives_223 2 rfl ?_
          refine j_ifN_ne cx (pc := 225) (by omega) (tgt := 260) dL_arrives_225 (by decide) (fun c225_12 => by exfalso; exact c225_12 (by assumption)) (fun c225_12 => ?_)
          refine j_iload cx (pc := 228) dL_arrives_228 1 rfl ?_
          refine j_ifN_ne cx (pc := 230) (by omega) (tgt := 260) dL_arrives_230 (by decide) (fun c230_13 => ?_) (fun c230_13 => ?_)
          · skip
            refine j_iload cx (pc := 260) dL_arrives_260 2 rfl ?_
            refine j_ifN_ne cx (pc := 262) (by omega) (tgt := 290) dL_arrives_262 (by decide) (fun c262_14 => by exfalso; exact c262_14 (by assumption)) (fun c262_14 => ?_)
            refine j_iload cx (pc := 265) dL_arrives_265 3 rfl ?_
            refine j_aload_n cx (pc := 267) dL_arrives_267 6 rfl ?_
            refine j_iconst cx (pc := 268) (v := (nI 3)) dL_arrives_268 (by decide) ?_
            refine j_iald cx (pc := 269) 0 0 0 rfl rfl rfl (by decide) (by decide) dL_arrives_269 ?_
            refine j_top (show (V8 0 3) = (nI (tN (G 0 3))) from (by rw [hV8, lup_ne (by omega), hV4, lup_ne (by omega), hV3, sh2_ne (by decide) (by decide), hV2, lup_ne (by omega), hV1, lup_ne (by omega)]; exact inN sg0)) ?_
            refine j_icmpN_ne cx (pc := 270) (by omega) (by omega) (tgt := 290) dL_arrives_270 (by decide) (fun c270_15 => ?_) (fun c270_15 => ?_)
            · skip
              refine j_iload cx (pc := 290) dL_arrives_290 2 rfl ?_
              refine j_ifN_ne cx (pc := 292) (by omega) (tgt := 319) dL_arrives_292 (by decide) (fun c292_16 => by exfalso; exact c292_16 (by assumption)) (fun c292_16 => ?_)
              refine j_aload cx (pc := 295) dL_arrives_295 9 rfl ?_
              refine j_bipush cx (pc := 297) (v := (nI 21)) dL_arrives_297 (by decide) ?_
              refine j_iload cx (pc := 299) dL_arrives_299 3 rfl ?_
              refine j_iaddN cx (pc := 301) dL_arrives_301 ?_
              refine j_iald cx (pc := 302) 0 3 0 rfl rfl rfl (by omega) (by decide) dL_arrives_302 ?_
              refine j_if_lt cx (pc := 303) (tgt := 319) dL_arrives_303 (by decide) (fun c303_17 => ?_) (fun c303_17 => ?_)
              · skip
                refine j_iload cx (pc := 319) dL_arrives_319 2 rfl ?_
                refine j_ifN_ne cx (pc := 321) (by omega) (tgt := 338) dL_arrives_321 (by decide) (fun c321_18 => by exfalso; exact c321_18 (by assumption)) (fun c321_18 => ?_)
                refine j_iload cx (pc := 324) dL_arrives_324 3 rfl ?_
                refine j_aload_n cx (pc := 326) dL_arrives_326 6 rfl ?_
                refine j_aload_n cx (pc := 327) dL_arrives_327 7 rfl ?_
                refine j_aload_n cx (pc := 328) dL_arrives_328 8 rfl ?_
                refine j_aload cx (pc := 329) dL_arrives_329 9 rfl ?_
                refine j_aload cx (pc := 331) dL_arrives_331 12 rfl ?_
                refine j_aload cx (pc := 333) dL_arrives_333 13 rfl ?_
                obtain ⟨V9, hV9⟩ : ∃ z, z = (CL_takes V8 lk) := ⟨_, rfl⟩
                refine j_csv cx (pc := 335) 7 (c_L_takes l D Y la V8 lk (vp_mono cnV8 (by decide)) (by omega)) gL_arrives_L_takes rfl (by decide +kernel) rfl ⟨Nat.le_of_ble_eq_true rfl, Nat.le_of_ble_eq_true rfl⟩ [0] rfl (by decide) (Bs' := [lwB Y la V9]) (by rw [hV9]; rfl) A1_lw rfl (Nat.le_of_ble_eq_true rfl) dL_arrives_335 ⟨Nat.zero_le _, Nat.zero_le _⟩ ?_
                refine j_iconst cx (pc := 338) (v := (nI 1)) dL_arrives_338 (by decide) ?_
                subst hQ; exact j_zret cx hr rfl rfl (by rw [← hsv]; subst hV9; subst hV8; subst hV4; subst hV3; subst hV2; subst hvl; subst hwr; subst hlk; subst hV1; simp only [CL_arr, if_pos c172_3, if_neg c230_13, if_neg c270_15, if_pos c303_17]) hA dL_arrives_339
              · skip
                refine j_aload cx (pc := 306) dL_arrives_306 9 rfl ?_
                refine j_iconst cx (pc := 308) (v := (nI 3)) dL_arrives_308 (by decide) ?_
                refine j_iload cx (pc := 309) dL_arrives_309 3 rfl ?_
                refine j_imulN cx (pc := 311) dL_arrives_311 ?_
                refine j_iconst cx (pc := 312) (v := (nI 1)) dL_arrives_312 (by decide) ?_
                refine j_iaddN cx (pc := 313) dL_arrives_313 ?_
                refine j_iconst cx (pc := 314) (v := (nI 1)) dL_arrives_314 (by decide) ?_
                obtain ⟨V10, hV10⟩ : ∃ z, z = up1 V8 3 ((3 * lk) + 1) (nI 1) := ⟨_, rfl⟩
                have cnV10 : vp_in (V10 0 10) 61 := by rw [hV10]; exact lvp_up (by omega) cnV8
                have pdV10 : vp_in (V10 0 9) 20 := by rw [hV10]; exact lvp_up (by omega) pdV8
                have sgV10 : vp_in (V10 0 3) 7 := by rw [hV10]; exact lvp_up (by omega) sgV8
                refine j_iast cx (pc := 315) 0 3 0 rfl rfl rfl (by omega) (by decide) (Bs' := [lwB Y la V10]) (by rw [hV10]; rfl) dL_arrives_315 ?_
                refine j_goto cx (pc := 316) (tgt := 338) dL_arrives_316 (by decide) ?_
                refine j_iconst cx (pc := 338) (v := (nI 1)) dL_arrives_338 (by decide) ?_
                subst hQ; exact j_zret cx hr rfl rfl (by rw [← hsv]; subst hV10; subst hV8; subst hV4; subst hV3; subst hV2; subst hvl; subst hwr; subst hlk; subst hV1; simp only [CL_arr, if_pos c172_3, if_neg c230_13, if_neg c270_15, if_neg c303_17]) hA dL_arrives_339
            · skip
              refine j_aload_n cx (pc := 273) dL_arrives_273 6 rfl ?_
              refine j_aload_n cx (pc := 274) dL_arrives_274 7 rfl ?_
              refine j_aload_n cx (pc := 275) dL_arrives_275 8 rfl ?_
              refine j_aload cx (pc := 276) dL_arrives_276 11 rfl ?_
              refine j_aload cx (pc := 278) dL_arrives_278 12 rfl ?_
              refine j_aload cx (pc := 280) dL_arrives_280 13 rfl ?_
              refine j_aload cx (pc := 282) dL_arrives_282 14 rfl ?_
              obtain ⟨V11, hV11⟩ : ∃ z, z = (CL_notes V8) := ⟨_, rfl⟩
              refine j_csv cx (pc := 284) 7 (c_L_notes l D Y la V8  (vp_mono cnV8 (by decide)) (vp_mono sgV8 (by decide))) gL_arrives_L_notes rfl (by decide +kernel) rfl ⟨Nat.le_of_ble_eq_true rfl, Nat.le_of_ble_eq_true rfl⟩ [0] rfl (by decide) (Bs' := [lwB Y la V11]) (by rw [hV11]; rfl) A1_lw rfl (Nat.le_of_ble_eq_true rfl) dL_arrives_284 ⟨Nat.zero_le _, Nat.zero_le _⟩ ?_
              refine j_goto cx (pc := 287) (tgt := 338) dL_arrives_287 (by decide) ?_
              refine j_iconst cx (pc := 338) (v := (nI 1)) dL_arrives_338 (by decide) ?_
              subst hQ; exact j_zret cx hr rfl rfl (by rw [← hsv]; subst hV11; subst hV8; subst hV4; subst hV3; subst hV2; subst hvl; subst hwr; subst hlk; subst hV1; simp only [CL_arr, if_pos c172_3, if_neg c230_13, if_pos c270_15]) hA dL_arrives_339
          · skip
            refine j_aload_n cx (pc := 233) dL_arrives_233 8 rfl ?_
            refine j_bipush cx (pc := 234) (v := (nI 6)) dL_arrives_234 (by decide) ?_
            refine j_iload cx (pc := 236) dL_arrives_236 3 rfl ?_
            refine j_imulN cx (pc := 238) dL_arrives_238 ?_
            refine j_iconst cx (pc := 239) (v := (nI 4)) dL_arrives_239 (by decide) ?_
            refine j_iaddN cx (pc := 240) dL_arrives_240 ?_
            refine j_iconst cx (pc := 241) (v := (nI 0)) dL_arrives_241 (by decide) ?_
            obtain ⟨V12, hV12⟩ : ∃ z, z = up1 V8 2 ((6 * lk) + 4) (nI 0) := ⟨_, rfl⟩
            have cnV12 : vp_in (V12 0 10) 61 := by rw [hV12]; exact lvp_up (by omega) cnV8
            have pdV12 : vp_in (V12 0 9) 20 := by rw [hV12]; exact lvp_up (by omega) pdV8
            have sgV12 : vp_in (V12 0 3) 7 := by rw [hV12]; exact lvp_up (by omega) sgV8
            refine j_iast cx (pc := 242) 0 2 0 rfl rfl rfl (by omega) (by decide) (Bs' := [lwB Y la V12]) (by rw [hV12]; rfl) dL_arrives_242 ?_
            refine j_iload cx (pc := 243) dL_arrives_243 3 rfl ?_
            refine j_iconst cx (pc := 245) (v := (nI 1)) dL_arrives_245 (by decide) ?_
            refine j_iconst cx (pc := 246) (v := (nI 0)) dL_arrives_246 (by decide) ?_
            refine j_iconst cx (pc := 247) (v := (nI 0)) dL_arrives_247 (by decide) ?_
            refine j_aload_n cx (pc := 248) dL_arrives_248 6 rfl ?_
            refine j_aload_n cx (pc := 249) dL_arrives_249 7 rfl ?_
            refine j_aload cx (pc := 250) dL_arrives_250 12 rfl ?_
            refine j_aload cx (pc := 252) dL_arrives_252 13 rfl ?_
            obtain ⟨V13, hV13⟩ : ∃ z, z = (CL_makes V12 lk 1 (nI 0) (nI 0)) := ⟨_, rfl⟩
            have cnV13 : vp_in (V13 0 10) 62 := by rw [hV13]; exact (lf_makes_cn cnV12)
            have pdV13 : vp_in (V13 0 9) 20 := by rw [hV13]; exact (lf_makes_pd pdV12)
            have sgV13 : vp_in (V13 0 3) 7 := by rw [hV13]; exact (lf_makes_sg sgV12)
            refine j_csv cx (pc := 254) 8 (c_L_makes l D Y la V12 lk 1 (nI 0) (nI 0) (vp_mono cnV12 (by decide)) (by omega) (by omega)) gL_arrives_L_makes rfl (by decide +kernel) rfl ⟨Nat.le_of_ble_eq_true rfl, Nat.le_of_ble_eq_true rfl⟩ [0] rfl (by decide) (Bs' := [lwB Y la V13]) (by rw [hV13]; rfl) A1_lw rfl (Nat.le_of_ble_eq_true rfl) dL_arrives_254 ⟨Nat.zero_le _, Nat.zero_le _⟩ ?_
            refine j_goto cx (pc := 257) (tgt := 338) dL_arrives_257 (by decide) ?_
            refine j_iconst cx (pc := 338) (v := (nI 1)) dL_arrives_338 (by decide) ?_
            subst hQ; exact j_zret cx hr rfl rfl (by rw [← hsv]; subst hV13; subst hV12; subst hV8; subst hV4; subst hV3; subst hV2; subst hvl; subst hwr; subst hlk; subst hV1; simp only [CL_arr, if_pos c172_3, if_pos c230_13]) hA dL_arrives_339
      | succ n ih =>
        intro i hi h0
        obtain ⟨V14, hV14⟩ : ∃ z, z = sh2 V2 r i := ⟨_, rfl⟩
        refine j_bs (Bs' := [lwB Y la V14]) (by rw [hV14]) ?_
        refine j_iload cx (pc := 117) dL_arrives_117 0 rfl ?_
        refine j_aload_n cx (pc := 119) dL_arrives_119 6 rfl ?_
        refine j_bipush cx (pc := 120) (v := (nI 10)) dL_arrives_120 (by decide) ?_
        refine j_iald cx (pc := 122) 0 0 0 rfl rfl rfl (by decide) (by decide) dL_arrives_122 ?_
        refine j_top (show (V14 0 10) = (nI (tN (G 0 10) - 1)) from (by rw [hV14, sh2_ne (by decide) (by decide)]; exact e10)) ?_
        refine j_icmpN_ge cx (pc := 123) (by omega) (by omega) (tgt := 156) dL_arrives_123 (by decide) (fun c123_19 => by exfalso; omega) (fun c123_19 => ?_)
        refine j_aload cx (pc := 126) dL_arrives_126 12 rfl ?_
        refine j_iload cx (pc := 128) dL_arrives_128 0 rfl ?_
        refine j_aload cx (pc := 130) dL_arrives_130 12 rfl ?_
        refine j_iload cx (pc := 132) dL_arrives_132 0 rfl ?_
        refine j_iconst cx (pc := 134) (v := (nI 1)) dL_arrives_134 (by decide) ?_
        refine j_iaddN cx (pc := 135) dL_arrives_135 ?_
        refine j_iald cx (pc := 136) 0 6 0 rfl rfl rfl (by omega) (by decide) dL_arrives_136 ?_
        obtain ⟨V15, hV15⟩ : ∃ z, z = up1 V14 6 i (V14 6 (i + 1)) := ⟨_, rfl⟩
        refine j_iast cx (pc := 137) 0 6 0 rfl rfl rfl (by omega) (by decide) (Bs' := [lwB Y la V15]) (by rw [hV15]; rfl) dL_arrives_137 ?_
        refine j_aload cx (pc := 138) dL_arrives_138 13 rfl ?_
        refine j_iload cx (pc := 140) dL_arrives_140 0 rfl ?_
        refine j_aload cx (pc := 142) dL_arrives_142 13 rfl ?_
        refine j_iload cx (pc := 144) dL_arrives_144 0 rfl ?_
        refine j_iconst cx (pc := 146) (v := (nI 1)) dL_arrives_146 (by decide) ?_
        refine j_iaddN cx (pc := 147) dL_arrives_147 ?_
        refine j_iald cx (pc := 148) 0 7 0 rfl rfl rfl (by omega) (by decide) dL_arrives_148 ?_
        obtain ⟨V16, hV16⟩ : ∃ z, z = up1 V15 7 i (V15 7 (i + 1)) := ⟨_, rfl⟩
        refine j_iast cx (pc := 149) 0 7 0 rfl rfl rfl (by omega) (by decide) (Bs' := [lwB Y la V16]) (by rw [hV16]; rfl) dL_arrives_149 ?_
        refine j_iinc cx (pc := 150) (v := (nI (i + 1))) (lv' := [(14, .int (nI (i + 1))), (13, .int (nI vl)), (12, .int (nI wr)), (11, .int (nI lk)), (10, .int (nI r)), (0, .int untl), (1, .ref (la 0)), (2, .ref (la 1)), (3, .ref (la 2)), (4, .ref (la 3)), (5, .ref (la 4)), (6, .ref (la 5)), (7, .ref (la 6)), (8, .ref (la 7)), (9, .ref (la 8))]) dL_arrives_150 0 rfl (show nI i + nI 1 = nI (i + 1) from nI_add _ _) (by decide) rfl ?_
        refine j_goto cx (pc := 153) (tgt := 117) dL_arrives_153 (by decide) ?_
        refine j_lvm (lv' := [(14, .int (nI (i + 1))), (13, .int (nI vl)), (12, .int (nI wr)), (11, .int (nI lk)), (10, .int (nI r)), (0, .int untl), (1, .ref (la 0)), (2, .ref (la 1)), (3, .ref (la 2)), (4, .ref (la 3)), (5, .ref (la 4)), (6, .ref (la 5)), (7, .ref (la 6)), (8, .ref (la 7)), (9, .ref (la 8))]) (by intro z hz; simp only [List.mem_cons, List.not_mem_nil, or_false] at hz ⊢; rcases hz with rfl | rfl | rfl | rfl | rfl | rfl | rfl | rfl | rfl | rfl | rfl | rfl | rfl | rfl | rfl <;> simp) ?_
        refine j_bs (Bs' := [lwB Y la (sh2 V2 r (i + 1))]) (by subst hV16; subst hV15; subst hV14; rw [sh2_s V2 r i h0]) ?_
        exact ih (i + 1) (by omega) (by omega)
    refine j_bs (Bs' := [lwB Y la (sh2 V2 r r)]) (by rw [sh2_0 V2 r]) ?_
    refine j_lvm (lv' := [(14, .int (nI r)), (13, .int (nI vl)), (12, .int (nI wr)), (11, .int (nI lk)), (10, .int (nI r)), (0, .int untl), (1, .ref (la 0)), (2, .ref (la 1)), (3, .ref (la 2)), (4, .ref (la 3)), (5, .ref (la 4)), (6, .ref (la 5)), (7, .ref (la 6)), (8, .ref (la 7)), (9, .ref (la 8))]) (by intro z hz; simp only [List.mem_cons, List.not_mem_nil, or_false] at hz ⊢; rcases hz with rfl | rfl | rfl | rfl | rfl | rfl | rfl | rfl | rfl | rfl | rfl | rfl | rfl | rfl | rfl <;> simp) ?_
    exact lp1 ((tN (G 0 10) - 1) - r) r (by omega) (Nat.le_refl _)
  have K63 : ∀ x : Int32, R1 = nI 0 → R0 = G → J p l e { frames := 4, cells := 0, slots := 0, locals := 113 } s m args below meth c 15 D A 0 0 Q [lwB Y la G] 63 [(10, .int x), (0, .int untl), (1, .ref (la 0)), (2, .ref (la 1)), (3, .ref (la 2)), (4, .ref (la 3)), (5, .ref (la 4)), (6, .ref (la 5)), (7, .ref (la 6)), (8, .ref (la 7)), (9, .ref (la 8))] [] := by
    intro x h1 h2
    subst h1
    subst h2
    refine j_iconst cx (pc := 63) (v := nI 0) dL_arrives_63 (by decide) ?_
    subst hQ; exact j_zret cx hr rfl rfl rfl hA dL_arrives_64
  obtain ⟨nx, hnx⟩ : ∃ z, nxF (G 6) (tN (G 0 10)) (-1) = z := ⟨_, rfl⟩
  have hnok := nxF_ok (t := G 6) (n := tN (G 0 10)) (by omega) (tN (G 0 10)) (-1) (Nat.le_refl _) (Or.inl (by decide))
  rw [hnx] at hnok
  have K49 : J p l e { frames := 4, cells := 0, slots := 0, locals := 113 } s m args below meth c 15 D A 0 0 Q [lwB Y la G] 49 [(10, .int nx), (0, .int untl), (1, .ref (la 0)), (2, .ref (la 1)), (3, .ref (la 2)), (4, .ref (la 3)), (5, .ref (la 4)), (6, .ref (la 5)), (7, .ref (la 6)), (8, .ref (la 7)), (9, .ref (la 8))] [] := by
    refine j_iload cx (pc := 49) dL_arrives_49 0 rfl ?_
    refine j_if_lt cx (pc := 51) (tgt := 63) dL_arrives_51 (by decide) (fun z => ?_) (fun z => ?_)
    · exact K63 nx (by rw [← hR1]; unfold CL_arrives; rw [hnx, if_pos z]) (by rw [← hR0]; unfold CL_arrives; rw [hnx, if_pos z])
    · obtain ⟨r, hr1, rfl⟩ := hnok.resolve_left z
      have hr31 : r < 2 ^ 31 := by omega
      refine j_aload cx (pc := 54) dL_arrives_54 8 rfl ?_
      refine j_iload cx (pc := 56) dL_arrives_56 0 rfl ?_
      refine j_iald cx (pc := 58) 0 6 0 rfl rfl rfl (by omega) (by decide) dL_arrives_58 ?_
      refine j_iload_n cx (pc := 59) dL_arrives_59 1 rfl ?_
      refine j_icmp_le cx (pc := 60) (tgt := 65) dL_arrives_60 (by decide) (fun z2 => ?_) (fun z2 => ?_)
      · have z3 : ¬ untl < G 6 (tN (nI r)) := by rw [tN_nI hr31]; exact Int32.not_lt.mpr z2
        exact K65 r hr1 (by rw [← hR1]; unfold CL_arrives; rw [hnx, if_neg z, if_neg z3]) (by rw [← hR0]; unfold CL_arrives; rw [hnx, if_neg z, if_neg z3, tN_nI hr31])
      · have z3 : untl < G 6 (tN (nI r)) := by rw [tN_nI hr31]; exact Int32.not_le.mp z2
        exact K63 _ (by rw [← hR1]; unfold CL_arrives; rw [hnx, if_neg z, if_pos z3]) (by rw [← hR0]; unfold CL_arrives; rw [hnx, if_neg z, if_pos z3])
  have lpn : ∀ (k : Nat) (x : Int32), k ≤ tN (G 0 10) → (x < 0 ∨ ∃ j, j < tN (G 0 10) ∧ x = nI j) → nxF (G 6) k x = nx → J p l e { frames := 4, cells := 0, slots := 0, locals := 113 } s m args below meth c 15 D A 0 0 Q [lwB Y la G] 11 [(11, .int (nI k - nI 1)), (10, .int x), (0, .int untl), (1, .ref (la 0)), (2, .ref (la 1)), (3, .ref (la 2)), (4, .ref (la 3)), (5, .ref (la 4)), (6, .ref (la 5)), (7, .ref (la 6)), (8, .ref (la 7)), (9, .ref (la 8))] [] := by
    intro k
    induction k with
    | zero =>
      intro x _ _ hx
      have hx2 : x = nx := hx
      subst hx2
      refine j_iload cx (pc := 11) dL_arrives_11 0 rfl ?_
      refine j_if_lt cx (pc := 13) (tgt := 49) dL_arrives_13 (by decide) (fun _ => ?_) (fun z => absurd (show nI 0 - nI 1 < 0 by decide) z)
      refine j_lv (lv' := [(10, .int x), (0, .int untl), (1, .ref (la 0)), (2, .ref (la 1)), (3, .ref (la 2)), (4, .ref (la 3)), (5, .ref (la 4)), (6, .ref (la 5)), (7, .ref (la 6)), (8, .ref (la 7)), (9, .ref (la 8))]) [1, 2, 3, 4, 5, 6, 7, 8, 9, 10, 11] rfl ?_
      exact K49
    | succ k ih =>
      intro x hk hx hn
      have e1 : nI (k + 1) - nI 1 = nI k := by rw [pk_sub (by omega)]; rfl
      have fin : ∀ y : Int32, (y < 0 ∨ ∃ j, j < tN (G 0 10) ∧ y = nI j) → nxF (G 6) k y = nx → J p l e { frames := 4, cells := 0, slots := 0, locals := 113 } s m args below meth c 15 D A 0 0 Q [lwB Y la G] 41 [(11, .int (nI k)), (10, .int x), (0, .int untl), (1, .ref (la 0)), (2, .ref (la 1)), (3, .ref (la 2)), (4, .ref (la 3)), (5, .ref (la 4)), (6, .ref (la 5)), (7, .ref (la 6)), (8, .ref (la 7)), (9, .ref (la 8))] [.int y] := by
        intro y hy hy2
        refine j_istore cx (pc := 41) (lv' := [(10, .int y), (11, .int (nI k)), (0, .int untl), (1, .ref (la 0)), (2, .ref (la 1)), (3, .ref (la 2)), (4, .ref (la 3)), (5, .ref (la 4)), (6, .ref (la 5)), (7, .ref (la 6)), (8, .ref (la 7)), (9, .ref (la 8))]) dL_arrives_41 (by decide) rfl ?_
        refine j_iinc cx (pc := 43) (v := nI k - nI 1) (lv' := [(11, .int (nI k - nI 1)), (10, .int y), (0, .int untl), (1, .ref (la 0)), (2, .ref (la 1)), (3, .ref (la 2)), (4, .ref (la 3)), (5, .ref (la 4)), (6, .ref (la 5)), (7, .ref (la 6)), (8, .ref (la 7)), (9, .ref (la 8))]) dL_arrives_43 1 rfl (pk_dec k) (by decide) rfl ?_
        refine j_goto cx (pc := 46) (tgt := 11) dL_arrives_46 (by decide) ?_
        exact ih y (by omega) hy hy2
      have k34 : nxF (G 6) k (nI k) = nx → J p l e { frames := 4, cells := 0, slots := 0, locals := 113 } s m args below meth c 15 D A 0 0 Q [lwB Y la G] 34 [(11, .int (nI k)), (10, .int x), (0, .int untl), (1, .ref (la 0)), (2, .ref (la 1)), (3, .ref (la 2)), (4, .ref (la 3)), (5, .ref (la 4)), (6, .ref (la 5)), (7, .ref (la 6)), (8, .ref (la 7)), (9, .ref (la 8))] [] := by
        intro h
        refine j_iload cx (pc := 34) dL_arrives_34 0 rfl ?_
        refine j_goto cx (pc := 36) (tgt := 41) dL_arrives_36 (by decide) ?_
        exact fin _ (Or.inr ⟨k, by omega, rfl⟩) h
      rw [e1]
      refine j_iload cx (pc := 11) dL_arrives_11 0 rfl ?_
      refine j_ifN_lt cx (pc := 13) (by omega) (tgt := 49) dL_arrives_13 (by decide) ?_
      refine j_iload cx (pc := 16) dL_arrives_16 1 rfl ?_
      refine j_if_lt cx (pc := 18) (tgt := 34) dL_arrives_18 (by decide) (fun z => ?_) (fun z => ?_)
      · exact k34 (by rw [← hn]; show _ = nxF (G 6) k (if x < 0 then nI k else _); rw [if_pos z])
      · obtain ⟨j, hj, rfl⟩ := hx.resolve_left z
        have hj31 : j < 2 ^ 31 := by omega
        refine j_aload cx (pc := 21) dL_arrives_21 9 rfl ?_
        refine j_iload cx (pc := 23) dL_arrives_23 0 rfl ?_
        refine j_iald cx (pc := 25) 0 6 0 rfl rfl rfl (by omega) (by decide) dL_arrives_25 ?_
        refine j_aload cx (pc := 26) dL_arrives_26 9 rfl ?_
        refine j_iload cx (pc := 28) dL_arrives_28 1 rfl ?_
        refine j_iald cx (pc := 30) 0 6 0 rfl rfl rfl (by omega) (by decide) dL_arrives_30 ?_
        refine j_icmp_gt cx (pc := 31) (tgt := 39) dL_arrives_31 (by decide) (fun z2 => ?_) (fun z2 => ?_)
        · refine j_iload cx (pc := 39) dL_arrives_39 1 rfl ?_
          refine fin _ (Or.inr ⟨j, hj, rfl⟩) ?_
          rw [← hn]; show _ = nxF (G 6) k (if nI j < 0 then nI k else if G 6 (tN (nI j)) < G 6 k then nI j else nI k)
          rw [if_neg z, tN_nI hj31, if_pos z2]
        · refine k34 ?_
          rw [← hn]; show _ = nxF (G 6) k (if nI j < 0 then nI k else if G 6 (tN (nI j)) < G 6 k then nI j else nI k)
          rw [if_neg z, tN_nI hj31, if_neg z2]
  refine j_iconst cx (pc := 0) (v := (-1)) dL_arrives_0 (by decide) ?_
  refine j_istore cx (pc := 1) (lv' := [(10, .int (-1)), (0, .int untl), (1, .ref (la 0)), (2, .ref (la 1)), (3, .ref (la 2)), (4, .ref (la 3)), (5, .ref (la 4)), (6, .ref (la 5)), (7, .ref (la 6)), (8, .ref (la 7)), (9, .ref (la 8))]) dL_arrives_1 (by decide) rfl ?_
  refine j_aload_n cx (pc := 3) dL_arrives_3 2 rfl ?_
  refine j_bipush cx (pc := 4) (v := nI 10) dL_arrives_4 (by decide) ?_
  refine j_iald cx (pc := 6) 0 0 0 rfl rfl rfl (by decide) (by decide) dL_arrives_6 ?_
  refine j_iconst cx (pc := 7) (v := nI 1) dL_arrives_7 (by decide) ?_
  refine j_isub cx (pc := 8) dL_arrives_8 ?_
  refine j_top (show G 0 10 - nI 1 = nI (tN (G 0 10)) - nI 1 by rw [← inN cn0]) ?_
  refine j_istore cx (pc := 9) (lv' := [(11, .int (nI (tN (G 0 10)) - nI 1)), (10, .int (-1)), (0, .int untl), (1, .ref (la 0)), (2, .ref (la 1)), (3, .ref (la 2)), (4, .ref (la 3)), (5, .ref (la 4)), (6, .ref (la 5)), (7, .ref (la 6)), (8, .ref (la 7)), (9, .ref (la 8))]) dL_arrives_9 (by decide) rfl ?_
  exact lpn (tN (G 0 10)) (-1) (Nat.le_refl _) (Or.inl (by decide)) hnx
