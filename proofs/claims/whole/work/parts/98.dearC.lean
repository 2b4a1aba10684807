/-! dearest of the class: only a delay above 1 is tried with less -/
set_option maxHeartbeats 4000000 in
set_option maxRecDepth 100000 in
theorem c_X7_dearestB (l : Launch) (D : va_G) (Y : Nat → ClassId) (ad : Nat → Nat → Nat) (F : Nat → Nat → Nat → Int32)  (hb : boL (F 0)) (hst : vp_in (F 0 0 0) 7) (hok : ∀ (W : Nat → Nat → Int32) (k w : Nat), k ≤ tN (F 0 0 0) → w < 3 → ¬ F 0 (18 + k) w ≤ nI 1 → lauOK (nI 2000000000) 1000000 (up1 (C2_copyFrom W (F 0)) (18 + k) w (C2_copyFrom W (F 0) (18 + k) w - nI 1))) : CtI l yX7_dearest wsX7_dearest 6 143 D (tyL Y) (FB Y ad F) [.ref (ad 8 2)] (C7_dearest F ).1 (FB Y ad ((C7_dearest F ).2)) := by
  refine CtI.intro (own := RX7) (cc := cX7_dearest) (maxL := 6) rfl (by decide +kernel) rfl (Nat.le_of_ble_eq_true rfl) (fun p e s m args below meth c A Q hA hQ cx hr => ?_)
  have hinX2 : ∀ w ∈ wsX20, w ∈ wsX7_dearest := by decide +kernel
  have hinX3 : ∀ w ∈ wsX30, w ∈ wsX7_dearest := by decide +kernel
  have hinX7 : ∀ w ∈ wsX70, w ∈ wsX7_dearest := by decide +kernel
  have f12 : Cond.fieldLink RX7 12 "FourPhases" "now" "LFourPhases$Line;" ∈ wsX7_dearest := by decide +kernel
  have f117 : Cond.fieldLink RX7 117 "FourPhases$Line" "links" "[LFourPhases$Link;" ∈ wsX7_dearest := by decide +kernel
  have f126 : Cond.fieldLink RX7 126 "FourPhases$Line" "stages" "I" ∈ wsX7_dearest := by decide +kernel
  have f180 : Cond.fieldLink RX7 180 "FourPhases$Link" "delays" "[I" ∈ wsX7_dearest := by decide +kernel
  have hst7 : tN (F 0 0 0) < 7 := inL hst
  have loop : ∀ (q : Nat) (link : Nat) (wire : Nat) (best : Int32) (earliest : Int32) (F0 : Nat → Nat → Nat → Int32), (4 * link + wire + q = 28) → (link ≤ tN (F 0 0 0)) → (wire ≤ 3) → (F0 0 = F 0) → L7_dearest q link wire best earliest F0 = C7_dearest F  → J p l e { frames := 6, cells := 0, slots := 0, locals := 143 } s m args below meth c 6 D A 0 0 Q (FB Y ad F0) 21 [(3, .int (nI link)), (4, .int (nI wire)), (1, .int best), (2, .int earliest), (0, .ref (ad 8 2))] [] := by
    intro q
    induction q with
    | zero =>
      intro link wire best earliest F0 hq hl0 hw0 hF0 hS
      exfalso; omega
    | succ q ih =>
      intro link wire best earliest F0 hq hl0 hw0 hF0 hS
      have hst0 : F0 0 0 0 = nI (tN (F0 0 0 0)) := by rw [hF0]; exact inN hst
      have hst1 : tN (F0 0 0 0) = tN (F 0 0 0) := by rw [hF0]
      have hk7 : link < 7 := by omega
      refine j_iload cx (pc := 21) dX7_dearest_21 1 rfl ?_
      refine j_iconst cx (pc := 23) (v := (nI 3)) dX7_dearest_23 (by decide) ?_
      refine j_icmpN_ge cx (pc := 24) (by omega) (by decide) (tgt := 84) dX7_dearest_24 (by decide) (fun c24_1 => ?_) (fun c24_1 => ?_)
      · skip
        refine j_iinc cx (pc := 84) (v := (nI (link + 1))) (lv' := [(3, .int (nI (link + 1))), (4, .int (nI wire)), (1, .int best), (2, .int earliest), (0, .ref (ad 8 2))]) dX7_dearest_84 0 rfl (show nI link + nI 1 = nI (link + 1) from nI_add _ _) (by decide) rfl ?_
        refine j_goto cx (pc := 87) (tgt := 7) dX7_dearest_87 (by decide) ?_
        refine j_iload_n cx (pc := 7) dX7_dearest_7 0 rfl ?_
        refine j_aload_n cx (pc := 8) dX7_dearest_8 4 rfl ?_
        refine j_get cx (pc := 9) 85 0 rfl rfl (C := RX7) (T := TX7) (N := 6) rfl hinX7 0 (by decide) f12 rfl (v := .ref (ad 0 0)) rfl dX7_dearest_9 ?_
        refine j_get cx (pc := 12) 1 0 rfl rfl (C := RX2) (T := TX2) (N := 12) rfl hinX2 0 (by decide) f126 rfl (v := .int (F0 0 0 0)) rfl dX7_dearest_12 ?_
        refine j_top (show (F0 0 0 0) = (nI (tN (F0 0 0 0))) from hst0) ?_
        refine j_icmpN_gt cx (pc := 15) (by omega) (by omega) (tgt := 90) dX7_dearest_15 (by decide) (fun c15_2 => ?_) (fun c15_2 => ?_)
        · skip
          refine j_iload_n cx (pc := 90) dX7_dearest_90 2 rfl ?_
          subst hQ; exact j_iret cx hr (by rw [← hS]; simp only [L7_dearest, if_pos c24_1, if_pos c15_2]) (by rw [← hS]; simp only [L7_dearest, if_pos c24_1, if_pos c15_2]) hA dX7_dearest_91
        · skip
          refine j_iconst cx (pc := 18) (v := (nI 0)) dX7_dearest_18 (by decide) ?_
          refine j_istore cx (pc := 19) (lv' := [(4, .int (nI 0)), (3, .int (nI (link + 1))), (1, .int best), (2, .int earliest), (0, .ref (ad 8 2))]) dX7_dearest_19 (by decide) rfl ?_
          refine j_lvm (lv' := [(3, .int (nI (link + 1))), (4, .int (nI 0)), (1, .int best), (2, .int earliest), (0, .ref (ad 8 2))]) (by intro z hz; simp only [List.mem_cons, List.not_mem_nil, or_false] at hz ⊢; rcases hz with rfl | rfl | rfl | rfl | rfl <;> simp) ?_
          exact ih (link + 1) 0 best earliest F0 (by omega) (by omega) (by omega) hF0 (by rw [← hS]; simp only [L7_dearest, if_pos c24_1, if_neg (Nat.not_lt.mpr c15_2)])
      · skip
        refine j_aload_n cx (pc := 27) dX7_dearest_27 4 rfl ?_
        refine j_get cx (pc := 28) 85 0 rfl rfl (C := RX7) (T := TX7) (N := 6) rfl hinX7 0 (by decide) f12 rfl (v := .ref (ad 0 0)) rfl dX7_dearest_28 ?_
        refine j_get cx (pc := 31) 1 0 rfl rfl (C := RX2) (T := TX2) (N := 12) rfl hinX2 6 (by decide) f117 rfl (v := .ref (ad 0 2)) rfl dX7_dearest_31 ?_
        refine j_iload_n cx (pc := 34) dX7_dearest_34 0 rfl ?_
        refine j_aald cx (pc := 35) 1 2 3 rfl rfl rfl (by omega) (by decide) (a' := (ad 0 (13 + 2 * link))) rfl dX7_dearest_35 ?_
        refine j_get cx (pc := 36) (4 + link) 0 (FB_lk0 Y ad F0 hk7) rfl (C := RX3) (T := TX3) (N := 10) rfl hinX3 0 (by decide) f180 rfl (v := .ref (ad 0 (14 + 2 * link))) rfl dX7_dearest_36 ?_
        refine j_iload cx (pc := 39) dX7_dearest_39 1 rfl ?_
        refine j_iald cx (pc := 41) (4 + link) 1 0 (FB_lk0 Y ad F0 hk7) rfl rfl (by omega) (by decide) dX7_dearest_41 ?_
        refine j_iconst cx (pc := 42) (v := (nI 1)) dX7_dearest_42 (by decide) ?_
        refine j_icmp_le cx (pc := 43) (tgt := 78) dX7_dearest_43 (by decide) (fun c43_3 => ?_) (fun c43_3 => ?_)
        · skip
          refine j_iinc cx (pc := 78) (v := (nI (wire + 1))) (lv' := [(4, .int (nI (wire + 1))), (3, .int (nI link)), (1, .int best), (2, .int earliest), (0, .ref (ad 8 2))]) dX7_dearest_78 1 rfl (show nI wire + nI 1 = nI (wire + 1) from nI_add _ _) (by decide) rfl ?_
          refine j_goto cx (pc := 81) (tgt := 21) dX7_dearest_81 (by decide) ?_
          refine j_lvm (lv' := [(3, .int (nI link)), (4, .int (nI (wire + 1))), (1, .int best), (2, .int earliest), (0, .ref (ad 8 2))]) (by intro z hz; simp only [List.mem_cons, List.not_mem_nil, or_false] at hz ⊢; rcases hz with rfl | rfl | rfl | rfl | rfl <;> simp) ?_
          exact ih link (wire + 1) best earliest F0 (by omega) hl0 (by omega) hF0 (by rw [← hS]; simp only [L7_dearest, if_neg (Nat.not_le.mpr c24_1), if_pos c43_3])
        · skip
          refine j_aload_n cx (pc := 46) dX7_dearest_46 4 rfl ?_
          refine j_iload_n cx (pc := 47) dX7_dearest_47 0 rfl ?_
          refine j_iload cx (pc := 48) dX7_dearest_48 1 rfl ?_
          obtain ⟨V1, hV1⟩ : ∃ z, z = (C7_quietTimeWithLess F0 link wire).2 := ⟨_, rfl⟩
          refine j_calli cx (pc := 50) 2 (c_X7_quietTimeWithLess l D Y ad F0 link wire (by rw [hF0]; exact hb) hk7 (by omega) (by rw [tr0, hF0]; exact hok _ link wire hl0 (by omega) (by rw [← hF0]; assumption))) gX7_dearest_X7_quietTimeWithLess rfl (by decide +kernel) rfl ⟨Nat.le_of_ble_eq_true rfl, Nat.le_of_ble_eq_true rfl⟩ (List.range 87) (sel_all (FB_len Y ad _)) nd_range87 (Bs' := FB Y ad V1) (by rw [hV1]; exact put_all (FB_len Y ad _) (FB_len Y ad _)) A1_FB 85 0 rfl rfl rfl rfl (Nat.le_of_ble_eq_true rfl) dX7_dearest_50 ⟨Nat.zero_le _, Nat.zero_le _⟩ ?_
          refine j_istore cx (pc := 53) (lv' := [(5, .int ((C7_quietTimeWithLess F0 link wire).1)), (3, .int (nI link)), (4, .int (nI wire)), (1, .int best), (2, .int earliest), (0, .ref (ad 8 2))]) dX7_dearest_53 (by decide) rfl ?_
          refine j_iload_n cx (pc := 55) dX7_dearest_55 3 rfl ?_
          refine j_bipush cx (pc := 56) (v := (-5)) dX7_dearest_56 (by decide) ?_
          refine j_icmp_eq cx (pc := 58) (tgt := 67) dX7_dearest_58 (by decide) (fun c58_4 => ?_) (fun c58_4 => ?_)
          · skip
            refine j_bipush cx (pc := 67) (v := (nI 10)) dX7_dearest_67 (by decide) ?_
            refine j_iload_n cx (pc := 69) dX7_dearest_69 1 rfl ?_
            refine j_imulN cx (pc := 70) dX7_dearest_70 ?_
            refine j_iload cx (pc := 71) dX7_dearest_71 2 rfl ?_
            refine j_iaddN cx (pc := 73) dX7_dearest_73 ?_
            refine j_istore_n cx (pc := 74) (lv' := [(1, .int (nI ((10 * link) + wire))), (5, .int ((C7_quietTimeWithLess F0 link wire).1)), (3, .int (nI link)), (4, .int (nI wire)), (2, .int earliest), (0, .ref (ad 8 2))]) dX7_dearest_74 (by decide) rfl ?_
            refine j_iload cx (pc := 75) dX7_dearest_75 1 rfl ?_
            refine j_istore_n cx (pc := 77) (lv' := [(2, .int ((C7_quietTimeWithLess F0 link wire).1)), (1, .int (nI ((10 * link) + wire))), (5, .int ((C7_quietTimeWithLess F0 link wire).1)), (3, .int (nI link)), (4, .int (nI wire)), (0, .ref (ad 8 2))]) dX7_dearest_77 (by decide) rfl ?_
            refine j_iinc cx (pc := 78) (v := (nI (wire + 1))) (lv' := [(4, .int (nI (wire + 1))), (2, .int ((C7_quietTimeWithLess F0 link wire).1)), (1, .int (nI ((10 * link) + wire))), (5, .int ((C7_quietTimeWithLess F0 link wire).1)), (3, .int (nI link)), (0, .ref (ad 8 2))]) dX7_dearest_78 4 rfl (show nI wire + nI 1 = nI (wire + 1) from nI_add _ _) (by decide) rfl ?_
            refine j_goto cx (pc := 81) (tgt := 21) dX7_dearest_81 (by decide) ?_
            refine j_lvm (lv' := [(3, .int (nI link)), (4, .int (nI (wire + 1))), (1, .int (nI ((10 * link) + wire))), (2, .int ((C7_quietTimeWithLess F0 link wire).1)), (0, .ref (ad 8 2))]) (by intro z hz; simp only [List.mem_cons, List.not_mem_nil, or_false] at hz ⊢; rcases hz with rfl | rfl | rfl | rfl | rfl <;> simp) ?_
            exact ih link (wire + 1) (nI ((10 * link) + wire)) ((C7_quietTimeWithLess F0 link wire).1) V1 (by omega) hl0 (by omega) (by rw [hV1, k_quietT _ _ _ (by decide)]; exact hF0) (by subst hV1; rw [← hS]; simp only [L7_dearest, if_neg (Nat.not_le.mpr c24_1), if_neg c43_3, if_pos c58_4])
          · skip
            refine j_iload cx (pc := 61) dX7_dearest_61 0 rfl ?_
            refine j_iload_n cx (pc := 63) dX7_dearest_63 4 rfl ?_
            refine j_icmp_ge cx (pc := 64) (tgt := 78) dX7_dearest_64 (by decide) (fun c64_5 => ?_) (fun c64_5 => ?_)
            · skip
              refine j_iinc cx (pc := 78) (v := (nI (wire + 1))) (lv' := [(4, .int (nI (wire + 1))), (5, .int ((C7_quietTimeWithLess F0 link wire).1)), (3, .int (nI link)), (1, .int best), (2, .int earliest), (0, .ref (ad 8 2))]) dX7_dearest_78 2 rfl (show nI wire + nI 1 = nI (wire + 1) from nI_add _ _) (by decide) rfl ?_
              refine j_goto cx (pc := 81) (tgt := 21) dX7_dearest_81 (by decide) ?_
              refine j_lvm (lv' := [(3, .int (nI link)), (4, .int (nI (wire + 1))), (1, .int best), (2, .int earliest), (0, .ref (ad 8 2))]) (by intro z hz; simp only [List.mem_cons, List.not_mem_nil, or_false] at hz ⊢; rcases hz with rfl | rfl | rfl | rfl | rfl <;> simp) ?_
              exact ih link (wire + 1) best earliest V1 (by omega) hl0 (by omega) (by rw [hV1, k_quietT _ _ _ (by decide)]; exact hF0) (by subst hV1; rw [← hS]; simp only [L7_dearest, if_neg (Nat.not_le.mpr c24_1), if_neg c43_3, if_neg c58_4, if_pos c64_5])
            · skip
              refine j_bipush cx (pc := 67) (v := (nI 10)) dX7_dearest_67 (by decide) ?_
              refine j_iload_n cx (pc := 69) dX7_dearest_69 1 rfl ?_
              refine j_imulN cx (pc := 70) dX7_dearest_70 ?_
              refine j_iload cx (pc := 71) dX7_dearest_71 2 rfl ?_
              refine j_iaddN cx (pc := 73) dX7_dearest_73 ?_
              refine j_istore_n cx (pc := 74) (lv' := [(1, .int (nI ((10 * link) + wire))), (5, .int ((C7_quietTimeWithLess F0 link wire).1)), (3, .int (nI link)), (4, .int (nI wire)), (2, .int earliest), (0, .ref (ad 8 2))]) dX7_dearest_74 (by decide) rfl ?_
              refine j_iload cx (pc := 75) dX7_dearest_75 1 rfl ?_
              refine j_istore_n cx (pc := 77) (lv' := [(2, .int ((C7_quietTimeWithLess F0 link wire).1)), (1, .int (nI ((10 * link) + wire))), (5, .int ((C7_quietTimeWithLess F0 link wire).1)), (3, .int (nI link)), (4, .int (nI wire)), (0, .ref (ad 8 2))]) dX7_dearest_77 (by decide) rfl ?_
              refine j_iinc cx (pc := 78) (v := (nI (wire + 1))) (lv' := [(4, .int (nI (wire + 1))), (2, .int ((C7_quietTimeWithLess F0 link wire).1)), (1, .int (nI ((10 * link) + wire))), (5, .int ((C7_quietTimeWithLess F0 link wire).1)), (3, .int (nI link)), (0, .ref (ad 8 2))]) dX7_dearest_78 4 rfl (show nI wire + nI 1 = nI (wire + 1) from nI_add _ _) (by decide) rfl ?_
              refine j_goto cx (pc := 81) (tgt := 21) dX7_dearest_81 (by decide) ?_
              refine j_lvm (lv' := [(3, .int (nI link)), (4, .int (nI (wire + 1))), (1, .int (nI ((10 * link) + wire))), (2, .int ((C7_quietTimeWithLess F0 link wire).1)), (0, .ref (ad 8 2))]) (by intro z hz; simp only [List.mem_cons, List.not_mem_nil, or_false] at hz ⊢; rcases hz with rfl | rfl | rfl | rfl | rfl <;> simp) ?_
              exact ih link (wire + 1) (nI ((10 * link) + wire)) ((C7_quietTimeWithLess F0 link wire).1) V1 (by omega) hl0 (by omega) (by rw [hV1, k_quietT _ _ _ (by decide)]; exact hF0) (by subst hV1; rw [← hS]; simp only [L7_dearest, if_neg (Nat.not_le.mpr c24_1), if_neg c43_3, if_neg c58_4, if_neg c64_5])
  refine j_bipush cx (pc := 0) (v := (-5)) dX7_dearest_0 (by decide) ?_
  refine j_istore_n cx (pc := 2) (lv' := [(1, .int (-5)), (0, .ref (ad 8 2))]) dX7_dearest_2 (by decide) rfl ?_
  refine j_iconst cx (pc := 3) (v := (nI 0)) dX7_dearest_3 (by decide) ?_
  refine j_istore_n cx (pc := 4) (lv' := [(2, .int (nI 0)), (1, .int (-5)), (0, .ref (ad 8 2))]) dX7_dearest_4 (by decide) rfl ?_
  refine j_iconst cx (pc := 5) (v := (nI 0)) dX7_dearest_5 (by decide) ?_
  refine j_istore_n cx (pc := 6) (lv' := [(3, .int (nI 0)), (2, .int (nI 0)), (1, .int (-5)), (0, .ref (ad 8 2))]) dX7_dearest_6 (by decide) rfl ?_
  refine j_iload_n cx (pc := 7) dX7_dearest_7 0 rfl ?_
  refine j_aload_n cx (pc := 8) dX7_dearest_8 3 rfl ?_
  refine j_get cx (pc := 9) 85 0 rfl rfl (C := RX7) (T := TX7) (N := 6) rfl hinX7 0 (by decide) f12 rfl (v := .ref (ad 0 0)) rfl dX7_dearest_9 ?_
  refine j_get cx (pc := 12) 1 0 rfl rfl (C := RX2) (T := TX2) (N := 12) rfl hinX2 0 (by decide) f126 rfl (v := .int (F 0 0 0)) rfl dX7_dearest_12 ?_
  refine j_top (show (F 0 0 0) = (nI (tN (F 0 0 0))) from (inN hst)) ?_
  refine j_icmpN_gt cx (pc := 15) (by decide) (by omega) (tgt := 90) dX7_dearest_15 (by decide) (fun c15_1 => by exfalso; omega) (fun c15_1 => ?_)
  refine j_iconst cx (pc := 18) (v := (nI 0)) dX7_dearest_18 (by decide) ?_
  refine j_istore cx (pc := 19) (lv' := [(4, .int (nI 0)), (3, .int (nI 0)), (2, .int (nI 0)), (1, .int (-5)), (0, .ref (ad 8 2))]) dX7_dearest_19 (by decide) rfl ?_
  refine j_lvm (lv' := [(3, .int (nI 0)), (4, .int (nI 0)), (1, .int (-5)), (2, .int (nI 0)), (0, .ref (ad 8 2))]) (by intro z hz; simp only [List.mem_cons, List.not_mem_nil, or_false] at hz ⊢; rcases hz with rfl | rfl | rfl | rfl | rfl <;> simp) ?_
  exact loop (28) 0 0 (-5) (nI 0) F rfl (Nat.zero_le _) (by decide) rfl (by rfl)