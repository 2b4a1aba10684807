def fi3 (f : Nat → Int32) (i : Nat) : Nat → Int32 := fun j => if j < i then (if j % 3 = 0 then nI 1 else nI 0) else f j
def bl2 (V : Nat → Nat → Int32) (i : Nat) : Nat → Nat → Int32 := setC (setC V 1 (fil (V 1) 0 i (nI 2))) 3 (fi3 (V 3) i)
theorem bl2_0 (V : Nat → Nat → Int32) : bl2 V 0 = V := by
  have e1 : fil (V 1) 0 0 (nI 2) = V 1 := funext fun j => if_neg (by omega)
  have e2 : fi3 (V 3) 0 = V 3 := funext fun j => if_neg (by omega)
  unfold bl2
  rw [e1, e2, setC_self, setC_self]
theorem bl2_s (V : Nat → Nat → Int32) (i : Nat) (x : Int32) (hx : x = if i % 3 = 0 then nI 1 else nI 0) : up1 (up1 (bl2 V i) 1 i (nI 2)) 3 i x = bl2 V (i + 1) := by
  have e1 : bl2 V i 1 = fil (V 1) 0 i (nI 2) := by unfold bl2; rw [setC_ne (by decide), setC_eq]
  have e3 : bl2 V i 3 = fi3 (V 3) i := by unfold bl2; rw [setC_eq]
  have e3' : up1 (bl2 V i) 1 i (nI 2) 3 = fi3 (V 3) i := by
    show setC (bl2 V i) 1 _ 3 = _
    rw [setC_ne (by decide), e3]
  have f1 : upd (fil (V 1) 0 i (nI 2)) i (nI 2) = fil (V 1) 0 (i + 1) (nI 2) := by
    funext j
    show (if j = i then _ else (if 0 ≤ j ∧ j < i then _ else _)) = (if 0 ≤ j ∧ j < i + 1 then _ else _)
    by_cases h2 : j = i
    · subst h2; rw [if_pos rfl, if_pos (by omega)]
    · rw [if_neg h2]
      by_cases h3 : 0 ≤ j ∧ j < i
      · rw [if_pos h3, if_pos (by omega)]
      · rw [if_neg h3, if_neg (by omega)]
  have f3 : upd (fi3 (V 3) i) i x = fi3 (V 3) (i + 1) := by
    funext j
    show (if j = i then _ else (if j < i then _ else _)) = (if j < i + 1 then _ else _)
    by_cases h2 : j = i
    · subst h2; rw [if_pos rfl, if_pos (by omega), hx]
    · rw [if_neg h2]
      by_cases h3 : j < i
      · rw [if_pos h3, if_pos (show j < i + 1 by omega)]
      · rw [if_neg h3, if_neg (by omega)]
  funext c
  show setC (up1 (bl2 V i) 1 i (nI 2)) 3 (upd (up1 (bl2 V i) 1 i (nI 2) 3) i x) c = _
  rw [e3', f3]
  by_cases c3 : c = 3
  · subst c3
    rw [setC_eq]; unfold bl2; rw [setC_eq]
  · rw [setC_ne c3]
    by_cases c1 : c = 1
    · subst c1
      show setC (bl2 V i) 1 (upd (bl2 V i 1) i _) 1 = _
      rw [setC_eq, e1, f1]
      unfold bl2
      rw [setC_ne (by decide), setC_eq]
    · show setC (bl2 V i) 1 _ c = _
      rw [setC_ne c1]
      unfold bl2
      rw [setC_ne c3, setC_ne c1, setC_ne c3, setC_ne c1]
def CL_builds (G : Nat → Nat → Int32) (stages : Nat) : Nat → Nat → Int32 :=
  let V1 := setC G 0 (fil (G 0) 3 13 (nI 0))
  let V2 := up1 V1 0 3 (nI stages)
  let V3 := up1 V2 0 8 (-5)
  let V4 := bl2 V3 21
  let V5 := setC V4 2 (fil (V4 2) 0 42 (nI 0))
  let V6 := setC V5 3 (fil (V5 3) 21 27 (-1))
  V6
set_option maxHeartbeats 4000000 in
set_option maxRecDepth 100000 in
theorem c_L_builds (l : Launch) (D : va_G) (Y : Nat → ClassId) (la : Nat → Nat) (G : Nat → Nat → Int32) (stages : Nat)  : CtV l yL_builds wsL_builds 0 0 D (tyL Y) [lwB Y la G] [.int (nI stages), .ref (la 0), .ref (la 1), .ref (la 2), .ref (la 3)] [lwB Y la (CL_builds G stages)] := by
  refine CtV.intro (own := RL) (cc := cL_builds) (maxL := 6) rfl (by decide +kernel) rfl (Nat.le_of_ble_eq_true rfl) (fun p e s m args below meth c A Q hA hQ cx hr => ?_)
  refine j_iconst cx (pc := 0) (v := (nI 3)) dL_builds_0 (by decide) ?_
  refine j_istore cx (pc := 1) (lv' := [(5, .int (nI 3)), (0, .int (nI stages)), (1, .ref (la 0)), (2, .ref (la 1)), (3, .ref (la 2)), (4, .ref (la 3))]) dL_builds_1 (by decide) rfl ?_
  have lp1 : ∀ (n i : Nat), i + n = 13 → 3 ≤ i → J p l e { frames := 0, cells := 0, slots := 0, locals := 0 } s m args below meth c 6 D A 0 0 Q ([lwB Y la (setC G 0 (fil (G 0) 3 i (nI 0)))]) 3 [(5, .int (nI i)), (0, .int (nI stages)), (1, .ref (la 0)), (2, .ref (la 1)), (3, .ref (la 2)), (4, .ref (la 3))] [] := by
    intro n
    induction n with
    | zero =>
      intro i hi h0
      have hi2 : i = 13 := by omega
      subst hi2
      obtain ⟨V1, hV1⟩ : ∃ z, z = setC G 0 (fil (G 0) 3 13 (nI 0)) := ⟨_, rfl⟩
      refine j_bs (Bs' := [lwB Y la V1]) (by rw [hV1]) ?_
      refine j_iload cx (pc := 3) dL_builds_3 0 rfl ?_
      refine j_bipush cx (pc := 5) (v := (nI 13)) dL_builds_5 (by decide) ?_
      refine j_icmpN_ge cx (pc := 7) (by decide) (by decide) (tgt := 21) dL_builds_7 (by decide) (fun c7_2 => ?_) (fun c7_2 => by exfalso; revert c7_2; decide)
      refine j_aload_n cx (pc := 21) dL_builds_21 2 rfl ?_
      refine j_iconst cx (pc := 22) (v := (nI 3)) dL_builds_22 (by decide) ?_
      refine j_iload_n cx (pc := 23) dL_builds_23 1 rfl ?_
      obtain ⟨V2, hV2⟩ : ∃ z, z = up1 V1 0 3 (nI stages) := ⟨_, rfl⟩
      refine j_iast cx (pc := 24) 0 0 0 rfl rfl rfl (by decide) (by decide) (Bs' := [lwB Y la V2]) (by rw [hV2]; rfl) dL_builds_24 ?_
      refine j_aload_n cx (pc := 25) dL_builds_25 2 rfl ?_
      refine j_bipush cx (pc := 26) (v := (nI 8)) dL_builds_26 (by decide) ?_
      refine j_bipush cx (pc := 28) (v := (-5)) dL_builds_28 (by decide) ?_
      obtain ⟨V3, hV3⟩ : ∃ z, z = up1 V2 0 8 (-5) := ⟨_, rfl⟩
      refine j_iast cx (pc := 30) 0 0 0 rfl rfl rfl (by decide) (by decide) (Bs' := [lwB Y la V3]) (by rw [hV3]; rfl) dL_builds_30 ?_
      refine j_iconst cx (pc := 31) (v := (nI 0)) dL_builds_31 (by decide) ?_
      refine j_istore cx (pc := 32) (lv' := [(5, .int (nI 0)), (0, .int (nI stages)), (1, .ref (la 0)), (2, .ref (la 1)), (3, .ref (la 2)), (4, .ref (la 3))]) dL_builds_32 (by decide) rfl ?_
      have lp3 : ∀ (n i : Nat), i + n = 21 → 0 ≤ i → J p l e { frames := 0, cells := 0, slots := 0, locals := 0 } s m args below meth c 6 D A 0 0 Q ([lwB Y la (bl2 V3 i)]) 34 [(5, .int (nI i)), (0, .int (nI stages)), (1, .ref (la 0)), (2, .ref (la 1)), (3, .ref (la 2)), (4, .ref (la 3))] [] := by
        intro n
        induction n with
        | zero =>
          intro i hi h0
          have hi2 : i = 21 := by omega
          subst hi2
          obtain ⟨V4, hV4⟩ : ∃ z, z = bl2 V3 21 := ⟨_, rfl⟩
          refine j_bs (Bs' := [lwB Y la V4]) (by rw [hV4]) ?_
          refine j_iload cx (pc := 34) dL_builds_34 0 rfl ?_
          refine j_bipush cx (pc := 36) (v := (nI 21)) dL_builds_36 (by decide) ?_
          refine j_icmpN_ge cx (pc := 38) (by decide) (by decide) (tgt := 69) dL_builds_38 (by decide) (fun c38_4 => ?_) (fun c38_4 => by exfalso; revert c38_4; decide)
          refine j_iconst cx (pc := 69) (v := (nI 0)) dL_builds_69 (by decide) ?_
          refine j_istore cx (pc := 70) (lv' := [(5, .int (nI 0)), (0, .int (nI stages)), (1, .ref (la 0)), (2, .ref (la 1)), (3, .ref (la 2)), (4, .ref (la 3))]) dL_builds_70 (by decide) rfl ?_
          have lp5 : ∀ (n i : Nat), i + n = 42 → 0 ≤ i → J p l e { frames := 0, cells := 0, slots := 0, locals := 0 } s m args below meth c 6 D A 0 0 Q ([lwB Y la (setC V4 2 (fil (V4 2) 0 i (nI 0)))]) 72 [(5, .int (nI i)), (0, .int (nI stages)), (1, .ref (la 0)), (2, .ref (la 1)), (3, .ref (la 2)), (4, .ref (la 3))] [] := by
            intro n
            induction n with
            | zero =>
              intro i hi h0
              have hi2 : i = 42 := by omega
              subst hi2
              obtain ⟨V5, hV5⟩ : ∃ z, z = setC V4 2 (fil (V4 2) 0 42 (nI 0)) := ⟨_, rfl⟩
              refine j_bs (Bs' := [lwB Y la V5]) (by rw [hV5]) ?_
              refine j_iload cx (pc := 72) dL_builds_72 0 rfl ?_
              refine j_bipush cx (pc := 74) (v := (nI 42)) dL_builds_74 (by decide) ?_
              refine j_icmpN_ge cx (pc := 76) (by decide) (by decide) (tgt := 90) dL_builds_76 (by decide) (fun c76_6 => ?_) (fun c76_6 => by exfalso; revert c76_6; decide)
              refine j_bipush cx (pc := 90) (v := (nI 21)) dL_builds_90 (by decide) ?_
              refine j_istore cx (pc := 92) (lv' := [(5, .int (nI 21)), (0, .int (nI stages)), (1, .ref (la 0)), (2, .ref (la 1)), (3, .ref (la 2)), (4, .ref (la 3))]) dL_builds_92 (by decide) rfl ?_
              have lp7 : ∀ (n i : Nat), i + n = 27 → 21 ≤ i → J p l e { frames := 0, cells := 0, slots := 0, locals := 0 } s m args below meth c 6 D A 0 0 Q ([lwB Y la (setC V5 3 (fil (V5 3) 21 i (-1)))]) 94 [(5, .int (nI i)), (0, .int (nI stages)), (1, .ref (la 0)), (2, .ref (la 1)), (3, .ref (la 2)), (4, .ref (la 3))] [] := by
                intro n
                induction n with
                | zero =>
                  intro i hi h0
                  have hi2 : i = 27 := by omega
                  subst hi2
                  obtain ⟨V6, hV6⟩ : ∃ z, z = setC V5 3 (fil (V5 3) 21 27 (-1)) := ⟨_, rfl⟩
                  refine j_bs (Bs' := [lwB Y la V6]) (by rw [hV6]) ?_
                  refine j_iload cx (pc := 94) dL_builds_94 0 rfl ?_
                  refine j_bipush cx (pc := 96) (v := (nI 27)) dL_builds_96 (by decide) ?_
                  refine j_icmpN_ge cx (pc := 98) (by decide) (by decide) (tgt := 113) dL_builds_98 (by decide) (fun c98_8 => ?_) (fun c98_8 => by exfalso; revert c98_8; decide)
                  subst hQ; exact j_vret cx hr (by subst hV6; subst hV5; subst hV4; subst hV3; subst hV2; subst hV1; rfl) hA dL_builds_113
                | succ n ih =>
                  intro i hi h0
                  obtain ⟨V7, hV7⟩ : ∃ z, z = setC V5 3 (fil (V5 3) 21 i (-1)) := ⟨_, rfl⟩
                  refine j_bs (Bs' := [lwB Y la V7]) (by rw [hV7]) ?_
                  refine j_iload cx (pc := 94) dL_builds_94 0 rfl ?_
                  refine j_bipush cx (pc := 96) (v := (nI 27)) dL_builds_96 (by decide) ?_
                  refine j_icmpN_ge cx (pc := 98) (by omega) (by decide) (tgt := 113) dL_builds_98 (by decide) (fun c98_9 => by exfalso; omega) (fun c98_9 => ?_)
                  refine j_aload cx (pc := 101) dL_builds_101 5 rfl ?_
                  refine j_iload cx (pc := 103) dL_builds_103 0 rfl ?_
                  refine j_iconst cx (pc := 105) (v := (-1)) dL_builds_105 (by decide) ?_
                  obtain ⟨V8, hV8⟩ : ∃ z, z = up1 V7 3 i (-1) := ⟨_, rfl⟩
                  refine j_iast cx (pc := 106) 0 3 0 rfl rfl rfl (by omega) (by decide) (Bs' := [lwB Y la V8]) (by rw [hV8]; rfl) dL_builds_106 ?_
                  refine j_iinc cx (pc := 107) (v := (nI (i + 1))) (lv' := [(5, .int (nI (i + 1))), (0, .int (nI stages)), (1, .ref (la 0)), (2, .ref (la 1)), (3, .ref (la 2)), (4, .ref (la 3))]) dL_builds_107 0 rfl (show nI i + nI 1 = nI (i + 1) from nI_add _ _) (by decide) rfl ?_
                  refine j_goto cx (pc := 110) (tgt := 94) dL_builds_110 (by decide) ?_
                  refine j_lvm (lv' := [(5, .int (nI (i + 1))), (0, .int (nI stages)), (1, .ref (la 0)), (2, .ref (la 1)), (3, .ref (la 2)), (4, .ref (la 3))]) (by intro z hz; simp only [List.mem_cons, List.not_mem_nil, or_false] at hz ⊢; rcases hz with rfl | rfl | rfl | rfl | rfl | rfl <;> simp) ?_
                  refine j_bs (Bs' := [lwB Y la (setC V5 3 (fil (V5 3) 21 (i + 1) (-1)))]) (by subst hV8; subst hV7; rw [fil_s V5 3 21 i (-1) h0]) ?_
                  exact ih (i + 1) (by omega) (by omega)
              refine j_bs (Bs' := [lwB Y la (setC V5 3 (fil (V5 3) 21 21 (-1)))]) (by rw [fil_0 V5 3 21 (-1)]) ?_
              refine j_lvm (lv' := [(5, .int (nI 21)), (0, .int (nI stages)), (1, .ref (la 0)), (2, .ref (la 1)), (3, .ref (la 2)), (4, .ref (la 3))]) (by intro z hz; simp only [List.mem_cons, List.not_mem_nil, or_false] at hz ⊢; rcases hz with rfl | rfl | rfl | rfl | rfl | rfl <;> simp) ?_
              exact lp7 (27 - 21) 21 (by omega) (Nat.le_refl _)
            | succ n ih =>
              intro i hi h0
              obtain ⟨V9, hV9⟩ : ∃ z, z = setC V4 2 (fil (V4 2) 0 i (nI 0)) := ⟨_, rfl⟩
              refine j_bs (Bs' := [lwB Y la V9]) (by rw [hV9]) ?_
              refine j_iload cx (pc := 72) dL_builds_72 0 rfl ?_
              refine j_bipush cx (pc := 74) (v := (nI 42)) dL_builds_74 (by decide) ?_
              refine j_icmpN_ge cx (pc := 76) (by omega) (by decide) (tgt := 90) dL_builds_76 (by decide) (fun c76_10 => by exfalso; omega) (fun c76_10 => ?_)
              refine j_aload_n cx (pc := 79) dL_builds_79 4 rfl ?_
              refine j_iload cx (pc := 80) dL_builds_80 0 rfl ?_
              refine j_iconst cx (pc := 82) (v := (nI 0)) dL_builds_82 (by decide) ?_
              obtain ⟨V10, hV10⟩ : ∃ z, z = up1 V9 2 i (nI 0) := ⟨_, rfl⟩
              refine j_iast cx (pc := 83) 0 2 0 rfl rfl rfl (by omega) (by decide) (Bs' := [lwB Y la V10]) (by rw [hV10]; rfl) dL_builds_83 ?_
              refine j_iinc cx (pc := 84) (v := (nI (i + 1))) (lv' := [(5, .int (nI (i + 1))), (0, .int (nI stages)), (1, .ref (la 0)), (2, .ref (la 1)), (3, .ref (la 2)), (4, .ref (la 3))]) dL_builds_84 0 rfl (show nI i + nI 1 = nI (i + 1) from nI_add _ _) (by decide) rfl ?_
              refine j_goto cx (pc := 87) (tgt := 72) dL_builds_87 (by decide) ?_
              refine j_lvm (lv' := [(5, .int (nI (i + 1))), (0, .int (nI stages)), (1, .ref (la 0)), (2, .ref (la 1)), (3, .ref (la 2)), (4, .ref (la 3))]) (by intro z hz; simp only [List.mem_cons, List.not_mem_nil, or_false] at hz ⊢; rcases hz with rfl | rfl | rfl | rfl | rfl | rfl <;> simp) ?_
              refine j_bs (Bs' := [lwB Y la (setC V4 2 (fil (V4 2) 0 (i + 1) (nI 0)))]) (by subst hV10; subst hV9; rw [fil_s V4 2 0 i (nI 0) h0]) ?_
              exact ih (i + 1) (by omega) (by omega)
          refine j_bs (Bs' := [lwB Y la (setC V4 2 (fil (V4 2) 0 0 (nI 0)))]) (by rw [fil_0 V4 2 0 (nI 0)]) ?_
          refine j_lvm (lv' := [(5, .int (nI 0)), (0, .int (nI stages)), (1, .ref (la 0)), (2, .ref (la 1)), (3, .ref (la 2)), (4, .ref (la 3))]) (by intro z hz; simp only [List.mem_cons, List.not_mem_nil, or_false] at hz ⊢; rcases hz with rfl | rfl | rfl | rfl | rfl | rfl <;> simp) ?_
          exact lp5 (42 - 0) 0 (by omega) (Nat.le_refl _)
        | succ n ih =>
          intro i hi h0
          obtain ⟨V11, hV11⟩ : ∃ z, z = bl2 V3 i := ⟨_, rfl⟩
          refine j_bs (Bs' := [lwB Y la V11]) (by rw [hV11]) ?_
          refine j_iload cx (pc := 34) dL_builds_34 0 rfl ?_
          refine j_bipush cx (pc := 36) (v := (nI 21)) dL_builds_36 (by decide) ?_
          refine j_icmpN_ge cx (pc := 38) (by omega) (by decide) (tgt := 69) dL_builds_38 (by decide) (fun c38_11 => by exfalso; omega) (fun c38_11 => ?_)
          refine j_aload_n cx (pc := 41) dL_builds_41 3 rfl ?_
          refine j_iload cx (pc := 42) dL_builds_42 0 rfl ?_
          refine j_iconst cx (pc := 44) (v := (nI 2)) dL_builds_44 (by decide) ?_
          obtain ⟨V12, hV12⟩ : ∃ z, z = up1 V11 1 i (nI 2) := ⟨_, rfl⟩
          refine j_iast cx (pc := 45) 0 1 0 rfl rfl rfl (by omega) (by decide) (Bs' := [lwB Y la V12]) (by rw [hV12]; rfl) dL_builds_45 ?_
          refine j_aload cx (pc := 46) dL_builds_46 5 rfl ?_
          refine j_iload cx (pc := 48) dL_builds_48 0 rfl ?_
          refine j_iload cx (pc := 50) dL_builds_50 0 rfl ?_
          refine j_iconst cx (pc := 52) (v := (nI 3)) dL_builds_52 (by decide) ?_
          refine j_iremN cx (pc := 53) (by omega) (by omega) (by omega) dL_builds_53 ?_
          refine j_ifN_ne cx (pc := 54) (by omega) (tgt := 61) dL_builds_54 (by decide) (fun c54_12 => ?_) (fun c54_12 => ?_)
          · skip
            refine j_iconst cx (pc := 61) (v := (nI 0)) dL_builds_61 (by decide) ?_
            obtain ⟨V13, hV13⟩ : ∃ z, z = up1 V12 3 i (nI 0) := ⟨_, rfl⟩
            refine j_iast cx (pc := 62) 0 3 0 rfl rfl rfl (by omega) (by decide) (Bs' := [lwB Y la V13]) (by rw [hV13]; rfl) dL_builds_62 ?_
            refine j_iinc cx (pc := 63) (v := (nI (i + 1))) (lv' := [(5, .int (nI (i + 1))), (0, .int (nI stages)), (1, .ref (la 0)), (2, .ref (la 1)), (3, .ref (la 2)), (4, .ref (la 3))]) dL_builds_63 0 rfl (show nI i + nI 1 = nI (i + 1) from nI_add _ _) (by decide) rfl ?_
            refine j_goto cx (pc := 66) (tgt := 34) dL_builds_66 (by decide) ?_
            refine j_lvm (lv' := [(5, .int (nI (i + 1))), (0, .int (nI stages)), (1, .ref (la 0)), (2, .ref (la 1)), (3, .ref (la 2)), (4, .ref (la 3))]) (by intro z hz; simp only [List.mem_cons, List.not_mem_nil, or_false] at hz ⊢; rcases hz with rfl | rfl | rfl | rfl | rfl | rfl <;> simp) ?_
            refine j_bs (Bs' := [lwB Y la (bl2 V3 (i + 1))]) (by subst hV13; subst hV12; subst hV11; rw [bl2_s V3 i _ (by first | rw [if_pos (by assumption)] | rw [if_neg (by assumption)])]) ?_
            exact ih (i + 1) (by omega) (by omega)
          · skip
            refine j_iconst cx (pc := 57) (v := (nI 1)) dL_builds_57 (by decide) ?_
            refine j_goto cx (pc := 58) (tgt := 62) dL_builds_58 (by decide) ?_
            obtain ⟨V14, hV14⟩ : ∃ z, z = up1 V12 3 i (nI 1) := ⟨_, rfl⟩
            refine j_iast cx (pc := 62) 0 3 0 rfl rfl rfl (by omega) (by decide) (Bs' := [lwB Y la V14]) (by rw [hV14]; rfl) dL_builds_62 ?_
            refine j_iinc cx (pc := 63) (v := (nI (i + 1))) (lv' := [(5, .int (nI (i + 1))), (0, .int (nI stages)), (1, .ref (la 0)), (2, .ref (la 1)), (3, .ref (la 2)), (4, .ref (la 3))]) dL_builds_63 0 rfl (show nI i + nI 1 = nI (i + 1) from nI_add _ _) (by decide) rfl ?_
            refine j_goto cx (pc := 66) (tgt := 34) dL_builds_66 (by decide) ?_
            refine j_lvm (lv' := [(5, .int (nI (i + 1))), (0, .int (nI stages)), (1, .ref (la 0)), (2, .ref (la 1)), (3, .ref (la 2)), (4, .ref (la 3))]) (by intro z hz; simp only [List.mem_cons, List.not_mem_nil, or_false] at hz ⊢; rcases hz with rfl | rfl | rfl | rfl | rfl | rfl <;> simp) ?_
            refine j_bs (Bs' := [lwB Y la (bl2 V3 (i + 1))]) (by subst hV14; subst hV12; subst hV11; rw [bl2_s V3 i _ (by first | rw [if_pos (by assumption)] | rw [if_neg (by assumption)])]) ?_
            exact ih (i + 1) (by omega) (by omega)
      refine j_bs (Bs' := [lwB Y la (bl2 V3 0)]) (by rw [bl2_0 V3]) ?_
      refine j_lvm (lv' := [(5, .int (nI 0)), (0, .int (nI stages)), (1, .ref (la 0)), (2, .ref (la 1)), (3, .ref (la 2)), (4, .ref (la 3))]) (by intro z hz; simp only [List.mem_cons, List.not_mem_nil, or_false] at hz ⊢; rcases hz with rfl | rfl | rfl | rfl | rfl | rfl <;> simp) ?_
      exact lp3 (21 - 0) 0 (by omega) (Nat.le_refl _)
    | succ n ih =>
      intro i hi h0
      obtain ⟨V15, hV15⟩ : ∃ z, z = setC G 0 (fil (G 0) 3 i (nI 0)) := ⟨_, rfl⟩
      refine j_bs (Bs' := [lwB Y la V15]) (by rw [hV15]) ?_
      refine j_iload cx (pc := 3) dL_builds_3 0 rfl ?_
      refine j_bipush cx (pc := 5) (v := (nI 13)) dL_builds_5 (by decide) ?_
      refine j_icmpN_ge cx (pc := 7) (by omega) (by decide) (tgt := 21) dL_builds_7 (by decide) (fun c7_13 => by exfalso; omega) (fun c7_13 => ?_)
      refine j_aload_n cx (pc := 10) dL_builds_10 2 rfl ?_
      refine j_iload cx (pc := 11) dL_builds_11 0 rfl ?_
      refine j_iconst cx (pc := 13) (v := (nI 0)) dL_builds_13 (by decide) ?_
      obtain ⟨V16, hV16⟩ : ∃ z, z = up1 V15 0 i (nI 0) := ⟨_, rfl⟩
      refine j_iast cx (pc := 14) 0 0 0 rfl rfl rfl (by omega) (by decide) (Bs' := [lwB Y la V16]) (by rw [hV16]; rfl) dL_builds_14 ?_
      refine j_iinc cx (pc := 15) (v := (nI (i + 1))) (lv' := [(5, .int (nI (i + 1))), (0, .int (nI stages)), (1, .ref (la 0)), (2, .ref (la 1)), (3, .ref (la 2)), (4, .ref (la 3))]) dL_builds_15 0 rfl (show nI i + nI 1 = nI (i + 1) from nI_add _ _) (by decide) rfl ?_
      refine j_goto cx (pc := 18) (tgt := 3) dL_builds_18 (by decide) ?_
      refine j_lvm (lv' := [(5, .int (nI (i + 1))), (0, .int (nI stages)), (1, .ref (la 0)), (2, .ref (la 1)), (3, .ref (la 2)), (4, .ref (la 3))]) (by intro z hz; simp only [List.mem_cons, List.not_mem_nil, or_false] at hz ⊢; rcases hz with rfl | rfl | rfl | rfl | rfl | rfl <;> simp) ?_
      refine j_bs (Bs' := [lwB Y la (setC G 0 (fil (G 0) 3 (i + 1) (nI 0)))]) (by subst hV16; subst hV15; rw [fil_s G 0 3 i (nI 0) h0]) ?_
      exact ih (i + 1) (by omega) (by omega)
  refine j_bs (Bs' := [lwB Y la (setC G 0 (fil (G 0) 3 3 (nI 0)))]) (by rw [fil_0 G 0 3 (nI 0)]) ?_
  refine j_lvm (lv' := [(5, .int (nI 3)), (0, .int (nI stages)), (1, .ref (la 0)), (2, .ref (la 1)), (3, .ref (la 2)), (4, .ref (la 3))]) (by intro z hz; simp only [List.mem_cons, List.not_mem_nil, or_false] at hz ⊢; rcases hz with rfl | rfl | rfl | rfl | rfl | rfl <;> simp) ?_
  exact lp1 (13 - 3) 3 (by omega) (Nat.le_refl _)
def foF (f : Nat → Int32) : Nat → Nat → Nat
  | 0, _ => 0
  | q + 1, k => (if f (21 + k) < 0 then 0 else 1) + foF f q (k + 1)
theorem foF_le (f : Nat → Int32) : ∀ q k, foF f q k ≤ q
  | 0, _ => Nat.le_refl 0
  | q + 1, k => by
    have := foF_le f q (k + 1)
    unfold foF
    split <;> omega
def CL_fullOnes (G : Nat → Nat → Int32) : Int32 := nI (foF (G 3) (tN (G 0 3)) 0)
set_option maxHeartbeats 4000000 in
set_option maxRecDepth 100000 in
theorem c_L_fullOnes (l : Launch) (D : va_G) (Y : Nat → ClassId) (la : Nat → Nat) (G : Nat → Nat → Int32) (sg0 : vp_in (G 0 3) 7) : CtI l yL_fullOnes wsL_fullOnes 0 0 D (tyL Y) [lwB Y la G] [.ref (la 0), .ref (la 3)] (CL_fullOnes G) [lwB Y la G] := by
  refine CtI.intro (own := RL) (cc := cL_fullOnes) (maxL := 4) rfl (by decide +kernel) rfl (Nat.le_of_ble_eq_true rfl) (fun p e s m args below meth c A Q hA hQ cx hr => ?_)
  have hsb := inL sg0
  have lp : ∀ (q k n : Nat), k + q = tN (G 0 3) → n + foF (G 3) q k = foF (G 3) (tN (G 0 3)) 0 → J p l e { frames := 0, cells := 0, slots := 0, locals := 0 } s m args below meth c 4 D A 0 0 Q [lwB Y la G] 4 [(3, .int (nI k)), (2, .int (nI n)), (0, .ref (la 0)), (1, .ref (la 3))] [] := by
    intro q
    induction q with
    | zero =>
      intro k n hk hn
      refine j_iload_n cx (pc := 4) dL_fullOnes_4 0 rfl ?_
      refine j_aload_n cx (pc := 5) dL_fullOnes_5 2 rfl ?_
      refine j_iconst cx (pc := 6) (v := nI 3) dL_fullOnes_6 (by decide) ?_
      refine j_iald cx (pc := 7) 0 0 0 rfl rfl rfl (by decide) (by decide) dL_fullOnes_7 ?_
      refine j_top (show G 0 3 = nI (tN (G 0 3)) from inN sg0) ?_
      refine j_icmpN_ge cx (pc := 8) (by omega) (by omega) (tgt := 34) dL_fullOnes_8 (by decide) (fun h => ?_) (fun h => by exfalso; omega)
      refine j_iload_n cx (pc := 34) dL_fullOnes_34 1 rfl ?_
      subst hQ; exact j_iret cx hr (by unfold CL_fullOnes; rw [← hn]; rfl) rfl hA dL_fullOnes_35
    | succ q ih =>
      intro k n hk hn
      refine j_iload_n cx (pc := 4) dL_fullOnes_4 0 rfl ?_
      refine j_aload_n cx (pc := 5) dL_fullOnes_5 2 rfl ?_
      refine j_iconst cx (pc := 6) (v := nI 3) dL_fullOnes_6 (by decide) ?_
      refine j_iald cx (pc := 7) 0 0 0 rfl rfl rfl (by decide) (by decide) dL_fullOnes_7 ?_
      refine j_top (show G 0 3 = nI (tN (G 0 3)) from inN sg0) ?_
      refine j_icmpN_ge cx (pc := 8) (by omega) (by omega) (tgt := 34) dL_fullOnes_8 (by decide) (fun h => by exfalso; omega) (fun h => ?_)
      refine j_iload_n cx (pc := 11) dL_fullOnes_11 1 rfl ?_
      refine j_aload_n cx (pc := 12) dL_fullOnes_12 3 rfl ?_
      refine j_bipush cx (pc := 13) (v := nI 21) dL_fullOnes_13 (by decide) ?_
      refine j_iload_n cx (pc := 15) dL_fullOnes_15 0 rfl ?_
      refine j_iaddN cx (pc := 16) dL_fullOnes_16 ?_
      refine j_iald cx (pc := 17) 0 3 0 rfl rfl rfl (by omega) (by decide) dL_fullOnes_17 ?_
      have go : ∀ z : Nat, n + z + foF (G 3) q (k + 1) = foF (G 3) (tN (G 0 3)) 0 → J p l e { frames := 0, cells := 0, slots := 0, locals := 0 } s m args below meth c 4 D A 0 0 Q [lwB Y la G] 26 [(3, .int (nI k)), (2, .int (nI n)), (0, .ref (la 0)), (1, .ref (la 3))] [.int (nI z), .int (nI n)] := by
        intro z hz
        refine j_iaddN cx (pc := 26) dL_fullOnes_26 ?_
        refine j_istore_n cx (pc := 27) (lv' := [(2, .int (nI (n + z))), (3, .int (nI k)), (0, .ref (la 0)), (1, .ref (la 3))]) dL_fullOnes_27 (by decide) rfl ?_
        refine j_iinc cx (pc := 28) (v := nI (k + 1)) (lv' := [(3, .int (nI (k + 1))), (2, .int (nI (n + z))), (0, .ref (la 0)), (1, .ref (la 3))]) dL_fullOnes_28 1 rfl (show nI k + nI 1 = nI (k + 1) from nI_add _ _) (by decide) rfl ?_
        refine j_goto cx (pc := 31) (tgt := 4) dL_fullOnes_31 (by decide) ?_
        exact ih (k + 1) (n + z) (by omega) hz
      refine j_if_lt cx (pc := 18) (tgt := 25) dL_fullOnes_18 (by decide) (fun z => ?_) (fun z => ?_)
      · refine j_iconst cx (pc := 25) (v := nI 0) dL_fullOnes_25 (by decide) ?_
        refine go 0 ?_
        rw [← hn]
        show _ = n + ((if G 3 (21 + k) < 0 then 0 else 1) + foF (G 3) q (k + 1))
        rw [if_pos z]; omega
      · refine j_iconst cx (pc := 21) (v := nI 1) dL_fullOnes_21 (by decide) ?_
        refine j_goto cx (pc := 22) (tgt := 26) dL_fullOnes_22 (by decide) ?_
        refine go 1 ?_
        rw [← hn]
        show _ = n + ((if G 3 (21 + k) < 0 then 0 else 1) + foF (G 3) q (k + 1))
        rw [if_neg z]; omega
  refine j_iconst cx (pc := 0) (v := nI 0) dL_fullOnes_0 (by decide) ?_
  refine j_istore_n cx (pc := 1) (lv' := [(2, .int (nI 0)), (0, .ref (la 0)), (1, .ref (la 3))]) dL_fullOnes_1 (by decide) rfl ?_
  refine j_iconst cx (pc := 2) (v := nI 0) dL_fullOnes_2 (by decide) ?_
  refine j_istore_n cx (pc := 3) (lv' := [(3, .int (nI 0)), (2, .int (nI 0)), (0, .ref (la 0)), (1, .ref (la 3))]) dL_fullOnes_3 (by decide) rfl ?_
  exact lp (tN (G 0 3)) 0 0 (by omega) (by omega)
