theorem mt_readsOrder {M : Nat → Nat → Int32} {n : Nat} (h : mtOK M n) (hn : n ≤ 900010) : mtOK (C8_readsOrder M).2 (n + 6) := by
  have h1 : mtOK (up1 M 0 4 (C8_code M)) n := h
  have h2 := mt_at h1 (by omega)
  have hA : ∀ x : Int32, mtOK (up1 (up1 (up1 M 0 4 (C8_code M)) 0 3 (up1 M 0 4 (C8_code M) 0 3 + nI 1)) 0 6 x) (n + 1) := fun x => h2
  have hN := mt_readsNumber (most := nI 99) h2 (by omega)
  have hD := mt_readsDelay h2 (by omega)
  have hX : ∀ (V : Nat → Nat → Int32), mtOK V (n + 1) → mtOK (if V 0 6 = -5 then (let V7 := up1 V 0 3 (V 0 3 + nI 0); if V7 0 6 = -5 then (nI 0, V7) else (nI 1, V7)) else (let V6 := up1 V 0 3 (V 0 3 + nI 1); if V6 0 6 = -5 then (nI 0, V6) else (nI 1, V6))).2 (n + 6) := by
    intro V hV
    have a := mt_mono (mt_at0 hV) (show n + 1 ≤ n + 6 by omega)
    have b := mt_mono (mt_at hV (by omega)) (show n + 1 + 1 ≤ n + 6 by omega)
    by_cases c : V 0 6 = -5
    · rw [if_pos c]; dsimp only
      split
      · exact a
      · exact a
    · rw [if_neg c]; dsimp only
      split
      · exact b
      · exact b
  rw [C8_readsOrder]
  by_cases c1 : up1 M 0 4 (C8_code M) 0 4 = nI 46
  · rw [if_pos c1]; dsimp only; exact mt_mono hN (by omega)
  · rw [if_neg c1]
    by_cases c2 : up1 M 0 4 (C8_code M) 0 4 = nI 97
    · rw [if_pos c2]; exact hX _ (hA _)
    · rw [if_neg c2]
      by_cases c3 : up1 M 0 4 (C8_code M) 0 4 = nI 98
      · rw [if_pos c3]; exact hX _ (hA _)
      · rw [if_neg c3]
        by_cases c4 : up1 M 0 4 (C8_code M) 0 4 = nI 100
        · rw [if_pos c4]; dsimp only; exact mt_mono hD (by omega)
        · rw [if_neg c4]
          by_cases c5 : up1 M 0 4 (C8_code M) 0 4 = nI 107
          · rw [if_pos c5]; dsimp only; exact mt_mono hD (by omega)
          · rw [if_neg c5]
            by_cases c6 : up1 M 0 4 (C8_code M) 0 4 = nI 114
            · rw [if_pos c6]; dsimp only; exact mt_mono hD (by omega)
            · rw [if_neg c6]; exact mt_mono h (by omega)
/-- the reading of the text comes to an end within so many orders -/
def ffOK : Nat → (Nat → Nat → Int32) → Prop
  | 0, _ => False
  | q + 1, M => (∃ n : Nat, n ≤ 800000 ∧ mtOK M n) ∧ (¬ (C8_readsOrder M).1 = 0 → ¬ (C8_readsOrder M).2 0 3 = (C8_readsOrder M).2 0 2 → C8_code (C8_readsOrder M).2 = nI 44 → ffOK q (up1 (C8_readsOrder M).2 0 3 ((C8_readsOrder M).2 0 3 + nI 1)))
def L8_findFault  : Nat → (Nat → Nat → Int32) → Int32 × (Nat → Nat → Int32)
  | 0, M0 =>
      ((-5), M0)
  | q + 1, M0 =>
      let V1 := (C8_readsOrder M0 ).2
      if ((C8_readsOrder M0 ).1) = 0 then
        ((V1 0 3), V1)
      else
        if (V1 0 3) = (V1 0 2) then
          ((-5), V1)
        else
          if (C8_code V1 ) = (nI 44) then
            let V2 := up1 V1 0 3 ((V1 0 3) + (nI 1))
            L8_findFault q  V2
          else
            ((V1 0 3), V1)
def C8_findFault (M : Nat → Nat → Int32)  : Int32 × (Nat → Nat → Int32) :=
  let V1 := up1 M 0 3 (nI 0)
  L8_findFault (62)  V1
set_option maxHeartbeats 4000000 in
set_option maxRecDepth 100000 in
theorem c_X8_findFault (l : Launch) (D : va_G) (Y : Nat → ClassId) (mo : Nat → Nat) (M : Nat → Nat → Int32)  (hok : ffOK 62 (up1 M 0 3 (nI 0))) : CtI l yX8_findFault wsX8_findFault 4 84 D (tyL Y) ([moB Y mo M]) [.ref (mo 0)] (C8_findFault M ).1 ([moB Y mo ((C8_findFault M ).2)]) := by
  refine CtI.intro (own := RX8) (cc := cX8_findFault) (maxL := 1) rfl (by decide +kernel) rfl (Nat.le_of_ble_eq_true rfl) (fun p e s m args below meth c A Q hA hQ cx hr => ?_)
  have hinX8 : ∀ w ∈ wsX80, w ∈ wsX8_findFault := by decide +kernel
  have f131 : Cond.fieldLink RX8 131 "FourPhasesModel" "length" "I" ∈ wsX8_findFault := by decide +kernel
  have f134 : Cond.fieldLink RX8 134 "FourPhasesModel" "at" "I" ∈ wsX8_findFault := by decide +kernel
  have loop : ∀ (q : Nat)  (M0 : Nat → Nat → Int32), (ffOK q M0) → L8_findFault q  M0 = C8_findFault M  → J p l e { frames := 4, cells := 0, slots := 0, locals := 84 } s m args below meth c 1 D A 0 0 Q ([moB Y mo M0]) 5 [(0, .ref (mo 0))] [] := by
    intro q
    induction q with
    | zero =>
      intro  M0 hok hS
      exact hok.elim
    | succ q ih =>
      intro  M0 hok hS
      obtain ⟨n, hnn, hm⟩ := hok.1
      refine j_aload_n cx (pc := 5) dX8_findFault_5 0 rfl ?_
      obtain ⟨V1, hV1⟩ : ∃ z, z = (C8_readsOrder M0 ).2 := ⟨_, rfl⟩
      have okV1 : mtOK V1 (n + 6) := by rw [hV1]; exact mt_readsOrder hm (by omega)
      refine j_calli cx (pc := 6) 0 (c_X8_readsOrder l D Y mo M0  n hm (by omega)) gX8_findFault_X8_readsOrder rfl (by decide +kernel) rfl ⟨Nat.le_of_ble_eq_true rfl, Nat.le_of_ble_eq_true rfl⟩ [0] rfl (by decide) (Bs' := [moB Y mo V1]) (by rw [hV1]; exact P1_mo M0 (C8_readsOrder M0 ).2) A1_mo 0 0 rfl rfl rfl rfl (Nat.le_of_ble_eq_true rfl) dX8_findFault_6 ⟨Nat.zero_le _, Nat.zero_le _⟩ ?_
      refine j_if_eq cx (pc := 9) (tgt := 53) dX8_findFault_9 (by decide) (fun c9_1 => ?_) (fun c9_1 => ?_)
      · skip
        refine j_aload_n cx (pc := 53) dX8_findFault_53 0 rfl ?_
        refine j_get cx (pc := 54) 0 0 rfl rfl (C := RX8) (T := TX8) (N := 12) rfl hinX8 8 (by decide) f134 rfl (v := .int (V1 0 3)) rfl dX8_findFault_54 ?_
        subst hQ; exact j_iret cx hr (by subst hV1; rw [← hS]; simp only [L8_findFault, if_pos c9_1]) (by subst hV1; rw [← hS]; simp only [L8_findFault, if_pos c9_1]) hA dX8_findFault_57
      · skip
        refine j_aload_n cx (pc := 12) dX8_findFault_12 0 rfl ?_
        refine j_get cx (pc := 13) 0 0 rfl rfl (C := RX8) (T := TX8) (N := 12) rfl hinX8 8 (by decide) f134 rfl (v := .int (V1 0 3)) rfl dX8_findFault_13 ?_
        refine j_aload_n cx (pc := 16) dX8_findFault_16 0 rfl ?_
        refine j_get cx (pc := 17) 0 0 rfl rfl (C := RX8) (T := TX8) (N := 12) rfl hinX8 7 (by decide) f131 rfl (v := .int (V1 0 2)) rfl dX8_findFault_17 ?_
        refine j_icmp_ne cx (pc := 20) (tgt := 26) dX8_findFault_20 (by decide) (fun c20_2 => ?_) (fun c20_2 => ?_)
        · skip
          refine j_aload_n cx (pc := 26) dX8_findFault_26 0 rfl ?_
          refine j_calli cx (pc := 27) 0 (c_X8_code l D Y mo V1  okV1.1 (mt_not okV1)) gX8_findFault_X8_code rfl (by decide +kernel) rfl ⟨Nat.le_of_ble_eq_true rfl, Nat.le_of_ble_eq_true rfl⟩ [0] rfl (by decide) (Bs' := [moB Y mo V1]) rfl rfl 0 0 rfl rfl rfl rfl (Nat.le_of_ble_eq_true rfl) dX8_findFault_27 ⟨Nat.zero_le _, Nat.zero_le _⟩ ?_
          refine j_bipush cx (pc := 30) (v := (nI 44)) dX8_findFault_30 (by decide) ?_
          refine j_icmp_eq cx (pc := 32) (tgt := 40) dX8_findFault_32 (by decide) (fun c32_3 => ?_) (fun c32_3 => ?_)
          · skip
            refine j_aload_n cx (pc := 40) dX8_findFault_40 0 rfl ?_
            refine j_dup cx (pc := 41) dX8_findFault_41 rfl ?_
            refine j_get cx (pc := 42) 0 0 rfl rfl (C := RX8) (T := TX8) (N := 12) rfl hinX8 8 (by decide) f134 rfl (v := .int (V1 0 3)) rfl dX8_findFault_42 ?_
            refine j_iconst cx (pc := 45) (v := (nI 1)) dX8_findFault_45 (by decide) ?_
            refine j_iadd cx (pc := 46) dX8_findFault_46 ?_
            obtain ⟨V2, hV2⟩ : ∃ z, z = up1 V1 0 3 ((V1 0 3) + (nI 1)) := ⟨_, rfl⟩
            have okV2 : mtOK V2 (n + 7) := by rw [hV2]; exact mt_at okV1 (by omega)
            refine j_put cx (pc := 47) 0 0 rfl rfl (C := RX8) (T := TX8) (N := 12) rfl hinX8 tyX8 tyX8_ok nmX8 8 (by decide) f134 rfl rfl rfl rfl (Nat.le_of_ble_eq_true rfl) (Bs' := [moB Y mo V2]) (by rw [hV2]; rfl) dX8_findFault_47 ?_
            refine j_goto cx (pc := 50) (tgt := 5) dX8_findFault_50 (by decide) ?_
            refine j_lvm (lv' := [(0, .ref (mo 0))]) (by intro z hz; exact hz) ?_
            exact ih  V2 (by subst hV2; subst hV1; exact hok.2 c9_1 c20_2 c32_3) (by subst hV2; subst hV1; rw [← hS]; simp only [L8_findFault, if_neg c9_1, if_neg c20_2, if_pos c32_3])
          · skip
            refine j_aload_n cx (pc := 35) dX8_findFault_35 0 rfl ?_
            refine j_get cx (pc := 36) 0 0 rfl rfl (C := RX8) (T := TX8) (N := 12) rfl hinX8 8 (by decide) f134 rfl (v := .int (V1 0 3)) rfl dX8_findFault_36 ?_
            subst hQ; exact j_iret cx hr (by subst hV1; rw [← hS]; simp only [L8_findFault, if_neg c9_1, if_neg c20_2, if_neg c32_3]) (by subst hV1; rw [← hS]; simp only [L8_findFault, if_neg c9_1, if_neg c20_2, if_neg c32_3]) hA dX8_findFault_39
        · skip
          refine j_bipush cx (pc := 23) (v := (-5)) dX8_findFault_23 (by decide) ?_
          subst hQ; exact j_iret cx hr (by subst hV1; rw [← hS]; simp only [L8_findFault, if_neg c9_1, if_pos c20_2]) (by subst hV1; rw [← hS]; simp only [L8_findFault, if_neg c9_1, if_pos c20_2]) hA dX8_findFault_25
  refine j_aload_n cx (pc := 0) dX8_findFault_0 0 rfl ?_
  refine j_iconst cx (pc := 1) (v := (nI 0)) dX8_findFault_1 (by decide) ?_
  obtain ⟨V1, hV1⟩ : ∃ z, z = up1 M 0 3 (nI 0) := ⟨_, rfl⟩
  refine j_put cx (pc := 2) 0 0 rfl rfl (C := RX8) (T := TX8) (N := 12) rfl hinX8 tyX8 tyX8_ok nmX8 8 (by decide) f134 rfl rfl rfl rfl (Nat.le_of_ble_eq_true rfl) (Bs' := [moB Y mo V1]) (by rw [hV1]; rfl) dX8_findFault_2 ?_
  refine j_lvm (lv' := [(0, .ref (mo 0))]) (by intro z hz; exact hz) ?_
  exact loop (62)  V1 (by rw [hV1]; exact hok) (by subst hV1; rfl)
