theorem tx_readOrdersL : ∀ (q i : Nat) (T : Nat → Nat → Int32), txOK T → txOK (L6_readOrders q i T).2 := by
  intro q
  induction q with
  | zero => intro i T h; exact h
  | succ q ih =>
    intro i T h
    have h1 := tx_readOrder h
    have h2 := tx_readSign (x := nI 44) h1
    unfold L6_readOrders
    dsimp only
    by_cases c1 : (C6_readOrder T).1 = 0
    · rw [if_pos c1]; exact h1
    · rw [if_neg c1]
      by_cases c2 : (C6_readOrder T).2 0 2 < (C6_readOrder T).2 0 0
      · rw [if_pos c2]
        by_cases c3 : (C6_readSign (C6_readOrder T).2 (nI 44)).1 = 0
        · rw [if_pos c3]; exact h2
        · rw [if_neg c3]; exact ih _ _ h2
      · rw [if_neg c2]; exact h1
theorem tx_readOrders {T : Nat → Nat → Int32} (h : txOK T) : txOK (C6_readOrders T).2 := tx_readOrdersL 21 0 _ ⟨h.1, vp_in_nI' (by decide)⟩
/-- one order of the text done on a line: what it answers and leaves -/
def ordC (T : Nat → Nat → Int32) (i : Nat) (V : Nat → Nat → Int32) : Int32 × (Nat → Nat → Int32) :=
  if T 2 i = nI 46 then C2_passTicks V (T 4 i) else if T 2 i = nI 97 then C2_addWord V (nI 0) (T 4 i) else if T 2 i = nI 98 then C2_addWord V (nI 1) (T 4 i) else if T 2 i = nI 107 then C2_changeDelay V (T 3 i) (nI 1) (T 4 i) else if T 2 i = nI 114 then C2_changeDelay V (T 3 i) (nI 0) (T 4 i) else C2_changeDelay V (T 3 i) (nI 2) (T 4 i)
def ptOK (V : Nat → Nat → Int32) (ticks : Int32) : Prop := ¬ ticks < nI 1 → ticks ≤ nI 1000 → V 0 1 + ticks ≤ nI 1000000 → lauOK (V 0 1 + ticks) 1000000 V
/-- what the orders need on their way -/
def poOK (T : Nat → Nat → Int32) : Nat → Nat → (Nat → Nat → Int32) → Prop
  | 0, _, V => WF V ∧ boL V
  | q + 1, i, V => WF V ∧ boL V ∧ (i < tN (T 0 1) → ptOK V (T 4 i) ∧ poOK T q (i + 1) (ordC T i V).2)
theorem poOK_1 {T : Nat → Nat → Int32} {q i : Nat} {V : Nat → Nat → Int32} (h : poOK T q i V) : WF V ∧ boL V := by
  cases q with
  | zero => exact h
  | succ q => exact ⟨h.1, h.2.1⟩
/-- what stands fast while the orders are done: all but the trial -/
def pfX (F F0 : Nat → Nat → Nat → Int32) : Prop := F0 0 = F 0 ∧ F0 2 = F 2 ∧ F0 8 = F 8 ∧ F0 7 = (C6_readOrders (F 7)).2 ∧ ∀ a : Nat, 3 ≤ a → a ≠ 7 → F0 a = F a
theorem pfX_1 {F F0 : Nat → Nat → Nat → Int32} {V : Nat → Nat → Int32} (h : pfX F F0) : pfX F (setF F0 1 V) := ⟨by rw [setF_ne (by decide)]; exact h.1, by rw [setF_ne (by decide)]; exact h.2.1, by rw [setF_ne (by decide)]; exact h.2.2.1, by rw [setF_ne (by decide)]; exact h.2.2.2.1, fun a h3 h7 => by rw [setF_ne (by omega)]; exact h.2.2.2.2 a h3 h7⟩
def L7_perform  : Nat → Nat → (Nat → Nat → Nat → Int32) → Int32 × (Nat → Nat → Nat → Int32)
  | 0, i, F0 =>
      let V1 := (C7_accept F0 (nI (tN (F0 7 0 1)))).2
      (((C7_accept F0 (nI (tN (F0 7 0 1)))).1), V1)
  | q + 1, i, F0 =>
      if (tN (F0 7 0 1)) ≤ i then
        let V1 := (C7_accept F0 (nI (tN (F0 7 0 1)))).2
        (((C7_accept F0 (nI (tN (F0 7 0 1)))).1), V1)
      else
        if (F0 7 2 i) = nI 46 then
          let V2 := setF F0 1 (C2_passTicks (F0 1) (F0 7 4 i)).2
          if 0 ≤ ((C2_passTicks (F0 1) (F0 7 4 i)).1) then
            L7_perform q (i + 1) V2
          else
            if ((C2_passTicks (F0 1) (F0 7 4 i)).1) = (-5) then
              L7_perform q (i + 1) V2
            else
              (((C2_passTicks (F0 1) (F0 7 4 i)).1), V2)
        else
          if (F0 7 2 i) = nI 97 then
            let V3 := setF F0 1 (C2_addWord (F0 1) (nI 0) (F0 7 4 i)).2
            if 0 ≤ ((C2_addWord (F0 1) (nI 0) (F0 7 4 i)).1) then
              L7_perform q (i + 1) V3
            else
              if ((C2_addWord (F0 1) (nI 0) (F0 7 4 i)).1) = (-5) then
                L7_perform q (i + 1) V3
              else
                (((C2_addWord (F0 1) (nI 0) (F0 7 4 i)).1), V3)
          else
            if (F0 7 2 i) = nI 98 then
              let V4 := setF F0 1 (C2_addWord (F0 1) (nI 1) (F0 7 4 i)).2
              if 0 ≤ ((C2_addWord (F0 1) (nI 1) (F0 7 4 i)).1) then
                L7_perform q (i + 1) V4
              else
                if ((C2_addWord (F0 1) (nI 1) (F0 7 4 i)).1) = (-5) then
                  L7_perform q (i + 1) V4
                else
                  (((C2_addWord (F0 1) (nI 1) (F0 7 4 i)).1), V4)
            else
              if (F0 7 2 i) = nI 107 then
                let V5 := setF F0 1 (C2_changeDelay (F0 1) (F0 7 3 i) (nI 1) (F0 7 4 i)).2
                if 0 ≤ ((C2_changeDelay (F0 1) (F0 7 3 i) (nI 1) (F0 7 4 i)).1) then
                  L7_perform q (i + 1) V5
                else
                  if ((C2_changeDelay (F0 1) (F0 7 3 i) (nI 1) (F0 7 4 i)).1) = (-5) then
                    L7_perform q (i + 1) V5
                  else
                    (((C2_changeDelay (F0 1) (F0 7 3 i) (nI 1) (F0 7 4 i)).1), V5)
              else
                if (F0 7 2 i) = nI 114 then
                  let V6 := setF F0 1 (C2_changeDelay (F0 1) (F0 7 3 i) (nI 0) (F0 7 4 i)).2
                  if 0 ≤ ((C2_changeDelay (F0 1) (F0 7 3 i) (nI 0) (F0 7 4 i)).1) then
                    L7_perform q (i + 1) V6
                  else
                    if ((C2_changeDelay (F0 1) (F0 7 3 i) (nI 0) (F0 7 4 i)).1) = (-5) then
                      L7_perform q (i + 1) V6
                    else
                      (((C2_changeDelay (F0 1) (F0 7 3 i) (nI 0) (F0 7 4 i)).1), V6)
                else
                  let V7 := setF F0 1 (C2_changeDelay (F0 1) (F0 7 3 i) (nI 2) (F0 7 4 i)).2
                  if 0 ≤ ((C2_changeDelay (F0 1) (F0 7 3 i) (nI 2) (F0 7 4 i)).1) then
                    L7_perform q (i + 1) V7
                  else
                    if ((C2_changeDelay (F0 1) (F0 7 3 i) (nI 2) (F0 7 4 i)).1) = (-5) then
                      L7_perform q (i + 1) V7
                    else
                      (((C2_changeDelay (F0 1) (F0 7 3 i) (nI 2) (F0 7 4 i)).1), V7)
def C7_perform (F : Nat → Nat → Nat → Int32)  : Int32 × (Nat → Nat → Nat → Int32) :=
  let V1 := setF F 7 (C6_readOrders (F 7) ).2
  if ((C6_readOrders (F 7) ).1) = (-1) then
    let V2 := setF V1 1 (C2_copyFrom (V1 1) (V1 0))
    L7_perform (21) 0 V2
  else
    (((-100) - ((C6_readOrders (F 7) ).1)), V1)
set_option maxHeartbeats 4000000 in
set_option maxRecDepth 100000 in
theorem c_X7_perform (l : Launch) (D : va_G) (Y : Nat → ClassId) (ad : Nat → Nat → Nat) (F : Nat → Nat → Nat → Int32)  (hh : hiOK F) (hb : boL (F 0)) (ht : txOK (F 7)) (hok : poOK (C6_readOrders (F 7)).2 21 0 (tr0 F)) : CtI l yX7_perform wsX7_perform 6 144 D (tyL Y) (FB Y ad F) [.ref (ad 8 2)] (C7_perform F ).1 (FB Y ad ((C7_perform F ).2)) := by
  refine CtI.intro (own := RX7) (cc := cX7_perform) (maxL := 4) rfl (by decide +kernel) rfl (Nat.le_of_ble_eq_true rfl) (fun p e s m args below meth c A Q hA hQ cx hr => ?_)
  have hinX6 : ∀ w ∈ wsX60, w ∈ wsX7_perform := by decide +kernel
  have hinX7 : ∀ w ∈ wsX70, w ∈ wsX7_perform := by decide +kernel
  have f12 : Cond.fieldLink RX7 12 "FourPhases" "now" "LFourPhases$Line;" ∈ wsX7_perform := by decide +kernel
  have f16 : Cond.fieldLink RX7 16 "FourPhases" "trial" "LFourPhases$Line;" ∈ wsX7_perform := by decide +kernel
  have f36 : Cond.fieldLink RX7 36 "FourPhases" "text" "LFourPhases$Text;" ∈ wsX7_perform := by decide +kernel
  have f97 : Cond.fieldLink RX7 97 "FourPhases$Text" "orders" "I" ∈ wsX7_perform := by decide +kernel
  have f100 : Cond.fieldLink RX7 100 "FourPhases$Text" "letters" "[I" ∈ wsX7_perform := by decide +kernel
  have f103 : Cond.fieldLink RX7 103 "FourPhases$Text" "values" "[I" ∈ wsX7_perform := by decide +kernel
  have f106 : Cond.fieldLink RX7 106 "FourPhases$Text" "targets" "[I" ∈ wsX7_perform := by decide +kernel
  have loop : ∀ (q : Nat) (i : Nat) (F0 : Nat → Nat → Nat → Int32), (i + q = 21) → (pfX F F0) → (poOK (C6_readOrders (F 7)).2 q i (F0 1)) → L7_perform q i F0 = C7_perform F  → J p l e { frames := 6, cells := 0, slots := 0, locals := 144 } s m args below meth c 4 D A 0 0 Q (FB Y ad F0) 31 [(2, .int (nI i)), (0, .ref (ad 8 2))] [] := by
    intro q
    induction q with
    | zero =>
      intro i F0 hq hF0 hk hS
      have h7 := hF0.2.2.2.1
      rw [← h7] at hk
      have ht0 : txOK (F0 7) := by rw [h7]; exact tx_readOrders ht
      have hor : tN (F0 7 0 1) < 21 := inL ht0.2
      have hbo : boL (F0 1) := (poOK_1 hk).2
      have he : tN ((C6_readOrders (F 7)).2 0 1) = tN (F0 7 0 1) := by rw [h7]
      refine j_iload_n cx (pc := 31) dX7_perform_31 0 rfl ?_
      refine j_aload_n cx (pc := 32) dX7_perform_32 1 rfl ?_
      refine j_get cx (pc := 33) 85 0 rfl rfl (C := RX7) (T := TX7) (N := 6) rfl hinX7 5 (by decide) f36 rfl (v := .ref (ad 7 0)) rfl dX7_perform_33 ?_
      refine j_get cx (pc := 36) 86 0 rfl rfl (C := RX6) (T := TX6) (N := 7) rfl hinX6 5 (by decide) f97 rfl (v := .int (F0 7 0 1)) rfl dX7_perform_36 ?_
      refine j_top (show (F0 7 0 1) = (nI (tN (F0 7 0 1))) from (inN ht0.2)) ?_
      refine j_icmpN_ge cx (pc := 39) (by omega) (by omega) (tgt := 267) dX7_perform_39 (by decide) (fun c39_1 => ?_) (fun c39_1 => by exfalso; omega)
      refine j_aload_n cx (pc := 267) dX7_perform_267 1 rfl ?_
      refine j_aload_n cx (pc := 268) dX7_perform_268 1 rfl ?_
      refine j_get cx (pc := 269) 85 0 rfl rfl (C := RX7) (T := TX7) (N := 6) rfl hinX7 5 (by decide) f36 rfl (v := .ref (ad 7 0)) rfl dX7_perform_269 ?_
      refine j_get cx (pc := 272) 86 0 rfl rfl (C := RX6) (T := TX6) (N := 7) rfl hinX6 5 (by decide) f97 rfl (v := .int (F0 7 0 1)) rfl dX7_perform_272 ?_
      refine j_top (show (F0 7 0 1) = (nI (tN (F0 7 0 1))) from (inN ht0.2)) ?_
      obtain ⟨V1, hV1⟩ : ∃ z, z = (C7_accept F0 (nI (tN (F0 7 0 1)))).2 := ⟨_, rfl⟩
      refine j_calli cx (pc := 275) 1 (c_X7_accept l D Y ad F0 (nI (tN (F0 7 0 1))) (by have := hF0.2.2.1; show vp_in (F0 8 0 0) 5 ∧ _; rw [this]; exact hh) (by rw [hF0.1]; exact hb) hbo) gX7_perform_X7_accept rfl (by decide +kernel) rfl ⟨Nat.le_of_ble_eq_true rfl, Nat.le_of_ble_eq_true rfl⟩ (List.range 87) (sel_all (FB_len Y ad _)) nd_range87 (Bs' := FB Y ad V1) (by rw [hV1]; exact put_all (FB_len Y ad _) (FB_len Y ad _)) A1_FB 85 0 rfl rfl rfl rfl (Nat.le_of_ble_eq_true rfl) dX7_perform_275 ⟨Nat.zero_le _, Nat.zero_le _⟩ ?_
      subst hQ; exact j_iret cx hr (by subst hV1; rw [← hS]; simp only [L7_perform]) (by subst hV1; rw [← hS]; simp only [L7_perform]) hA dX7_perform_278
    | succ q ih =>
      intro i F0 hq hF0 hk hS
      have h7 := hF0.2.2.2.1
      rw [← h7] at hk
      have ht0 : txOK (F0 7) := by rw [h7]; exact tx_readOrders ht
      have hor : tN (F0 7 0 1) < 21 := inL ht0.2
      have hbo : boL (F0 1) := (poOK_1 hk).2
      have he : tN ((C6_readOrders (F 7)).2 0 1) = tN (F0 7 0 1) := by rw [h7]
      refine j_iload_n cx (pc := 31) dX7_perform_31 0 rfl ?_
      refine j_aload_n cx (pc := 32) dX7_perform_32 1 rfl ?_
      refine j_get cx (pc := 33) 85 0 rfl rfl (C := RX7) (T := TX7) (N := 6) rfl hinX7 5 (by decide) f36 rfl (v := .ref (ad 7 0)) rfl dX7_perform_33 ?_
      refine j_get cx (pc := 36) 86 0 rfl rfl (C := RX6) (T := TX6) (N := 7) rfl hinX6 5 (by decide) f97 rfl (v := .int (F0 7 0 1)) rfl dX7_perform_36 ?_
      refine j_top (show (F0 7 0 1) = (nI (tN (F0 7 0 1))) from (inN ht0.2)) ?_
      refine j_icmpN_ge cx (pc := 39) (by omega) (by omega) (tgt := 267) dX7_perform_39 (by decide) (fun c39_1 => ?_) (fun c39_1 => ?_)
      · skip
        refine j_aload_n cx (pc := 267) dX7_perform_267 1 rfl ?_
        refine j_aload_n cx (pc := 268) dX7_perform_268 1 rfl ?_
        refine j_get cx (pc := 269) 85 0 rfl rfl (C := RX7) (T := TX7) (N := 6) rfl hinX7 5 (by decide) f36 rfl (v := .ref (ad 7 0)) rfl dX7_perform_269 ?_
        refine j_get cx (pc := 272) 86 0 rfl rfl (C := RX6) (T := TX6) (N := 7) rfl hinX6 5 (by decide) f97 rfl (v := .int (F0 7 0 1)) rfl dX7_perform_272 ?_
        refine j_top (show (F0 7 0 1) = (nI (tN (F0 7 0 1))) from (inN ht0.2)) ?_
        obtain ⟨V1, hV1⟩ : ∃ z, z = (C7_accept F0 (nI (tN (F0 7 0 1)))).2 := ⟨_, rfl⟩
        refine j_calli cx (pc := 275) 1 (c_X7_accept l D Y ad F0 (nI (tN (F0 7 0 1))) (by have := hF0.2.2.1; show vp_in (F0 8 0 0) 5 ∧ _; rw [this]; exact hh) (by rw [hF0.1]; exact hb) hbo) gX7_perform_X7_accept rfl (by decide +kernel) rfl ⟨Nat.le_of_ble_eq_true rfl, Nat.le_of_ble_eq_true rfl⟩ (List.range 87) (sel_all (FB_len Y ad _)) nd_range87 (Bs' := FB Y ad V1) (by rw [hV1]; exact put_all (FB_len Y ad _) (FB_len Y ad _)) A1_FB 85 0 rfl rfl rfl rfl (Nat.le_of_ble_eq_true rfl) dX7_perform_275 ⟨Nat.zero_le _, Nat.zero_le _⟩ ?_
        subst hQ; exact j_iret cx hr (by subst hV1; rw [← hS]; simp only [L7_perform, if_pos c39_1]) (by subst hV1; rw [← hS]; simp only [L7_perform, if_pos c39_1]) hA dX7_perform_278
      · skip
        refine j_aload_n cx (pc := 42) dX7_perform_42 1 rfl ?_
        refine j_get cx (pc := 43) 85 0 rfl rfl (C := RX7) (T := TX7) (N := 6) rfl hinX7 5 (by decide) f36 rfl (v := .ref (ad 7 0)) rfl dX7_perform_43 ?_
        refine j_get cx (pc := 46) 86 0 rfl rfl (C := RX6) (T := TX6) (N := 7) rfl hinX6 2 (by decide) f100 rfl (v := .ref (ad 7 2)) rfl dX7_perform_46 ?_
        refine j_iload_n cx (pc := 49) dX7_perform_49 0 rfl ?_
        refine j_iald cx (pc := 50) 86 2 0 rfl rfl rfl (by omega) (by decide) dX7_perform_50 ?_
        by_cases s51_2 : (F0 7 2 i) = nI 46
        · skip
          refine j_lookup cx (pc := 51) dX7_perform_51 (by decide) (off := 91) (by rw [s51_2]; decide) (tgt := 142) (by decide) ?_
          refine j_aload_n cx (pc := 142) dX7_perform_142 1 rfl ?_
          refine j_get cx (pc := 143) 85 0 rfl rfl (C := RX7) (T := TX7) (N := 6) rfl hinX7 1 (by decide) f16 rfl (v := .ref (ad 1 0)) rfl dX7_perform_143 ?_
          refine j_aload_n cx (pc := 146) dX7_perform_146 1 rfl ?_
          refine j_get cx (pc := 147) 85 0 rfl rfl (C := RX7) (T := TX7) (N := 6) rfl hinX7 5 (by decide) f36 rfl (v := .ref (ad 7 0)) rfl dX7_perform_147 ?_
          refine j_get cx (pc := 150) 86 0 rfl rfl (C := RX6) (T := TX6) (N := 7) rfl hinX6 4 (by decide) f103 rfl (v := .ref (ad 7 4)) rfl dX7_perform_150 ?_
          refine j_iload_n cx (pc := 153) dX7_perform_153 0 rfl ?_
          refine j_iald cx (pc := 154) 86 4 0 rfl rfl rfl (by omega) (by decide) dX7_perform_154 ?_
          obtain ⟨V2, hV2⟩ : ∃ z, z = setF F0 1 (C2_passTicks (F0 1) (F0 7 4 i)).2 := ⟨_, rfl⟩
          refine j_calli cx (pc := 155) 1 (c_X2_passTicks l D Y (ad 1) (F0 1) (F0 7 4 i) (hk.2.2 c39_1).1) gX7_perform_X2_passTicks rfl (by decide +kernel) rfl ⟨Nat.le_of_ble_eq_true rfl, Nat.le_of_ble_eq_true rfl⟩ (List.range' 61 12) (FB_1_s Y ad F0) (by decide +kernel) (Bs' := FB Y ad V2) (by rw [hV2]; exact FB_1_p Y ad F0 _) A1_ln 61 0 rfl rfl rfl rfl (Nat.le_of_ble_eq_true rfl) dX7_perform_155 ⟨Nat.zero_le _, Nat.zero_le _⟩ ?_
          refine j_istore_n cx (pc := 158) (lv' := [(3, .int ((C2_passTicks (F0 1) (F0 7 4 i)).1)), (2, .int (nI i)), (0, .ref (ad 8 2))]) dX7_perform_158 (by decide) rfl ?_
          refine j_goto cx (pc := 159) (tgt := 249) dX7_perform_159 (by decide) ?_
          refine j_iload_n cx (pc := 249) dX7_perform_249 0 rfl ?_
          refine j_if_ge cx (pc := 250) (tgt := 261) dX7_perform_250 (by decide) (fun c250_3 => ?_) (fun c250_3 => ?_)
          · skip
            refine j_iinc cx (pc := 261) (v := (nI (i + 1))) (lv' := [(2, .int (nI (i + 1))), (3, .int ((C2_passTicks (F0 1) (F0 7 4 i)).1)), (0, .ref (ad 8 2))]) dX7_perform_261 1 rfl (show nI i + nI 1 = nI (i + 1) from nI_add _ _) (by decide) rfl ?_
            refine j_goto cx (pc := 264) (tgt := 31) dX7_perform_264 (by decide) ?_
            refine j_lvm (lv' := [(2, .int (nI (i + 1))), (0, .ref (ad 8 2))]) (by intro z hz; simp only [List.mem_cons, List.not_mem_nil, or_false] at hz ⊢; rcases hz with rfl | rfl <;> simp) ?_
            exact ih (i + 1) V2 (by omega) (by subst hV2; exact pfX_1 hF0) (by subst hV2; rw [← h7]; have h9 := (hk.2.2 c39_1).2; simp only [ordC, if_pos s51_2] at h9; exact h9) (by subst hV2; rw [← hS]; simp only [L7_perform, if_neg (Nat.not_le.mpr c39_1), if_pos s51_2, if_pos c250_3])
          · skip
            refine j_iload_n cx (pc := 253) dX7_perform_253 0 rfl ?_
            refine j_bipush cx (pc := 254) (v := (-5)) dX7_perform_254 (by decide) ?_
            refine j_icmp_eq cx (pc := 256) (tgt := 261) dX7_perform_256 (by decide) (fun c256_4 => ?_) (fun c256_4 => ?_)
            · skip
              refine j_iinc cx (pc := 261) (v := (nI (i + 1))) (lv' := [(2, .int (nI (i + 1))), (3, .int ((C2_passTicks (F0 1) (F0 7 4 i)).1)), (0, .ref (ad 8 2))]) dX7_perform_261 1 rfl (show nI i + nI 1 = nI (i + 1) from nI_add _ _) (by decide) rfl ?_
              refine j_goto cx (pc := 264) (tgt := 31) dX7_perform_264 (by decide) ?_
              refine j_lvm (lv' := [(2, .int (nI (i + 1))), (0, .ref (ad 8 2))]) (by intro z hz; simp only [List.mem_cons, List.not_mem_nil, or_false] at hz ⊢; rcases hz with rfl | rfl <;> simp) ?_
              exact ih (i + 1) V2 (by omega) (by subst hV2; exact pfX_1 hF0) (by subst hV2; rw [← h7]; have h9 := (hk.2.2 c39_1).2; simp only [ordC, if_pos s51_2] at h9; exact h9) (by subst hV2; rw [← hS]; simp only [L7_perform, if_neg (Nat.not_le.mpr c39_1), if_pos s51_2, if_neg c250_3, if_pos c256_4])
            · skip
              refine j_iload_n cx (pc := 259) dX7_perform_259 0 rfl ?_
              subst hQ; exact j_iret cx hr (by subst hV2; rw [← hS]; simp only [L7_perform, if_neg (Nat.not_le.mpr c39_1), if_pos s51_2, if_neg c250_3, if_neg c256_4]) (by subst hV2; rw [← hS]; simp only [L7_perform, if_neg (Nat.not_le.mpr c39_1), if_pos s51_2, if_neg c250_3, if_neg c256_4]) hA dX7_perform_260
        by_cases s51_5 : (F0 7 2 i) = nI 97
        · skip
          refine j_lookup cx (pc := 51) dX7_perform_51 (by decide) (off := 49) (by rw [s51_5]; decide) (tgt := 100) (by decide) ?_
          refine j_aload_n cx (pc := 100) dX7_perform_100 1 rfl ?_
          refine j_get cx (pc := 101) 85 0 rfl rfl (C := RX7) (T := TX7) (N := 6) rfl hinX7 1 (by decide) f16 rfl (v := .ref (ad 1 0)) rfl dX7_perform_101 ?_
          refine j_iconst cx (pc := 104) (v := (nI 0)) dX7_perform_104 (by decide) ?_
          refine j_aload_n cx (pc := 105) dX7_perform_105 1 rfl ?_
          refine j_get cx (pc := 106) 85 0 rfl rfl (C := RX7) (T := TX7) (N := 6) rfl hinX7 5 (by decide) f36 rfl (v := .ref (ad 7 0)) rfl dX7_perform_106 ?_
          refine j_get cx (pc := 109) 86 0 rfl rfl (C := RX6) (T := TX6) (N := 7) rfl hinX6 4 (by decide) f103 rfl (v := .ref (ad 7 4)) rfl dX7_perform_109 ?_
          refine j_iload_n cx (pc := 112) dX7_perform_112 0 rfl ?_
          refine j_iald cx (pc := 113) 86 4 0 rfl rfl rfl (by omega) (by decide) dX7_perform_113 ?_
          obtain ⟨V3, hV3⟩ : ∃ z, z = setF F0 1 (C2_addWord (F0 1) (nI 0) (F0 7 4 i)).2 := ⟨_, rfl⟩
          refine j_calli cx (pc := 114) 2 (c_X2_addWord l D Y (ad 1) (F0 1) (nI 0) (F0 7 4 i) hk.1.2.2.2.1 hk.1.2.2.2.2.1 hk.1.2.2.2.2.2 hk.1.1) gX7_perform_X2_addWord rfl (by decide +kernel) rfl ⟨Nat.le_of_ble_eq_true rfl, Nat.le_of_ble_eq_true rfl⟩ (List.range' 61 12) (FB_1_s Y ad F0) (by decide +kernel) (Bs' := FB Y ad V3) (by rw [hV3]; exact FB_1_p Y ad F0 _) A1_ln 61 0 rfl rfl rfl rfl (Nat.le_of_ble_eq_true rfl) dX7_perform_114 ⟨Nat.zero_le _, Nat.zero_le _⟩ ?_
          refine j_istore_n cx (pc := 117) (lv' := [(3, .int ((C2_addWord (F0 1) (nI 0) (F0 7 4 i)).1)), (2, .int (nI i)), (0, .ref (ad 8 2))]) dX7_perform_117 (by decide) rfl ?_
          refine j_goto cx (pc := 118) (tgt := 249) dX7_perform_118 (by decide) ?_
          refine j_iload_n cx (pc := 249) dX7_perform_249 0 rfl ?_
          refine j_if_ge cx (pc := 250) (tgt := 261) dX7_perform_250 (by decide) (fun c250_6 => ?_) (fun c250_6 => ?_)
          · skip
            refine j_iinc cx (pc := 261) (v := (nI (i + 1))) (lv' := [(2, .int (nI (i + 1))), (3, .int ((C2_addWord (F0 1) (nI 0) (F0 7 4 i)).1)), (0, .ref (ad 8 2))]) dX7_perform_261 1 rfl (show nI i + nI 1 = nI (i + 1) from nI_add _ _) (by decide) rfl ?_
            refine j_goto cx (pc := 264) (tgt := 31) dX7_perform_264 (by decide) ?_
            refine j_lvm (lv' := [(2, .int (nI (i + 1))), (0, .ref (ad 8 2))]) (by intro z hz; simp only [List.mem_cons, List.not_mem_nil, or_false] at hz ⊢; rcases hz with rfl | rfl <;> simp) ?_
            exact ih (i + 1) V3 (by omega) (by subst hV3; exact pfX_1 hF0) (by subst hV3; rw [← h7]; have h9 := (hk.2.2 c39_1).2; simp only [ordC, if_neg s51_2, if_pos s51_5] at h9; exact h9) (by subst hV3; rw [← hS]; simp only [L7_perform, if_neg (Nat.not_le.mpr c39_1), if_neg s51_2, if_pos s51_5, if_pos c250_6])
          · skip
            refine j_iload_n cx (pc := 253) dX7_perform_253 0 rfl ?_
            refine j_bipush cx (pc := 254) (v := (-5)) dX7_perform_254 (by decide) ?_
            refine j_icmp_eq cx (pc := 256) (tgt := 261) dX7_perform_256 (by decide) (fun c256_7 => ?_) (fun c256_7 => ?_)
            · skip
              refine j_iinc cx (pc := 261) (v := (nI (i + 1))) (lv' := [(2, .int (nI (i + 1))), (3, .int ((C2_addWord (F0 1) (nI 0) (F0 7 4 i)).1)), (0, .ref (ad 8 2))]) dX7_perform_261 1 rfl (show nI i + nI 1 = nI (i + 1) from nI_add _ _) (by decide) rfl ?_
              refine j_goto cx (pc := 264) (tgt := 31) dX7_perform_264 (by decide) ?_
              refine j_lvm (lv' := [(2, .int (nI (i + 1))), (0, .ref (ad 8 2))]) (by intro z hz; simp only [List.mem_cons, List.not_mem_nil, or_false] at hz ⊢; rcases hz with rfl | rfl <;> simp) ?_
              exact ih (i + 1) V3 (by omega) (by subst hV3; exact pfX_1 hF0) (by subst hV3; rw [← h7]; have h9 := (hk.2.2 c39_1).2; simp only [ordC, if_neg s51_2, if_pos s51_5] at h9; exact h9) (by subst hV3; rw [← hS]; simp only [L7_perform, if_neg (Nat.not_le.mpr c39_1), if_neg s51_2, if_pos s51_5, if_neg c250_6, if_pos c256_7])
            · skip
              refine j_iload_n cx (pc := 259) dX7_perform_259 0 rfl ?_
              subst hQ; exact j_iret cx hr (by subst hV3; rw [← hS]; simp only [L7_perform, if_neg (Nat.not_le.mpr c39_1), if_neg s51_2, if_pos s51_5, if_neg c250_6, if_neg c256_7]) (by subst hV3; rw [← hS]; simp only [L7_perform, if_neg (Nat.not_le.mpr c39_1), if_neg s51_2, if_pos s51_5, if_neg c250_6, if_neg c256_7]) hA dX7_perform_260
        by_cases s51_8 : (F0 7 2 i) = nI 98
        · skip
          refine j_lookup cx (pc := 51) dX7_perform_51 (by decide) (off := 70) (by rw [s51_8]; decide) (tgt := 121) (by decide) ?_
          refine j_aload_n cx (pc := 121) dX7_perform_121 1 rfl ?_
          refine j_get cx (pc := 122) 85 0 rfl rfl (C := RX7) (T := TX7) (N := 6) rfl hinX7 1 (by decide) f16 rfl (v := .ref (ad 1 0)) rfl dX7_perform_122 ?_
          refine j_iconst cx (pc := 125) (v := (nI 1)) dX7_perform_125 (by decide) ?_
          refine j_aload_n cx (pc := 126) dX7_perform_126 1 rfl ?_
          refine j_get cx (pc := 127) 85 0 rfl rfl (C := RX7) (T := TX7) (N := 6) rfl hinX7 5 (by decide) f36 rfl (v := .ref (ad 7 0)) rfl dX7_perform_127 ?_
          refine j_get cx (pc := 130) 86 0 rfl rfl (C := RX6) (T := TX6) (N := 7) rfl hinX6 4 (by decide) f103 rfl (v := .ref (ad 7 4)) rfl dX7_perform_130 ?_
          refine j_iload_n cx (pc := 133) dX7_perform_133 0 rfl ?_
          refine j_iald cx (pc := 134) 86 4 0 rfl rfl rfl (by omega) (by decide) dX7_perform_134 ?_
          obtain ⟨V4, hV4⟩ : ∃ z, z = setF F0 1 (C2_addWord (F0 1) (nI 1) (F0 7 4 i)).2 := ⟨_, rfl⟩
          refine j_calli cx (pc := 135) 2 (c_X2_addWord l D Y (ad 1) (F0 1) (nI 1) (F0 7 4 i) hk.1.2.2.2.1 hk.1.2.2.2.2.1 hk.1.2.2.2.2.2 hk.1.1) gX7_perform_X2_addWord rfl (by decide +kernel) rfl ⟨Nat.le_of_ble_eq_true rfl, Nat.le_of_ble_eq_true rfl⟩ (List.range' 61 12) (FB_1_s Y ad F0) (by decide +kernel) (Bs' := FB Y ad V4) (by rw [hV4]; exact FB_1_p Y ad F0 _) A1_ln 61 0 rfl rfl rfl rfl (Nat.le_of_ble_eq_true rfl) dX7_perform_135 ⟨Nat.zero_le _, Nat.zero_le _⟩ ?_
          refine j_istore_n cx (pc := 138) (lv' := [(3, .int ((C2_addWord (F0 1) (nI 1) (F0 7 4 i)).1)), (2, .int (nI i)), (0, .ref (ad 8 2))]) dX7_perform_138 (by decide) rfl ?_
          refine j_goto cx (pc := 139) (tgt := 249) dX7_perform_139 (by decide) ?_
          refine j_iload_n cx (pc := 249) dX7_perform_249 0 rfl ?_
          refine j_if_ge cx (pc := 250) (tgt := 261) dX7_perform_250 (by decide) (fun c250_9 => ?_) (fun c250_9 => ?_)
          · skip
            refine j_iinc cx (pc := 261) (v := (nI (i + 1))) (lv' := [(2, .int (nI (i + 1))), (3, .int ((C2_addWord (F0 1) (nI 1) (F0 7 4 i)).1)), (0, .ref (ad 8 2))]) dX7_perform_261 1 rfl (show nI i + nI 1 = nI (i + 1) from nI_add _ _) (by decide) rfl ?_
            refine j_goto cx (pc := 264) (tgt := 31) dX7_perform_264 (by decide) ?_
            refine j_lvm (lv' := [(2, .int (nI (i + 1))), (0, .ref (ad 8 2))]) (by intro z hz; simp only [List.mem_cons, List.not_mem_nil, or_false] at hz ⊢; rcases hz with rfl | rfl <;> simp) ?_
            exact ih (i + 1) V4 (by omega) (by subst hV4; exact pfX_1 hF0) (by subst hV4; rw [← h7]; have h9 := (hk.2.2 c39_1).2; simp only [ordC, if_neg s51_2, if_neg s51_5, if_pos s51_8] at h9; exact h9) (by subst hV4; rw [← hS]; simp only [L7_perform, if_neg (Nat.not_le.mpr c39_1), if_neg s51_2, if_neg s51_5, if_pos s51_8, if_pos c250_9])
          · skip
            refine j_iload_n cx (pc := 253) dX7_perform_253 0 rfl ?_
            refine j_bipush cx (pc := 254) (v := (-5)) dX7_perform_254 (by decide) ?_
            refine j_icmp_eq cx (pc := 256) (tgt := 261) dX7_perform_256 (by decide) (fun c256_10 => ?_) (fun c256_10 => ?_)
            · skip
              refine j_iinc cx (pc := 261) (v := (nI (i + 1))) (lv' := [(2, .int (nI (i + 1))), (3, .int ((C2_addWord (F0 1) (nI 1) (F0 7 4 i)).1)), (0, .ref (ad 8 2))]) dX7_perform_261 1 rfl (show nI i + nI 1 = nI (i + 1) from nI_add _ _) (by decide) rfl ?_
              refine j_goto cx (pc := 264) (tgt := 31) dX7_perform_264 (by decide) ?_
              refine j_lvm (lv' := [(2, .int (nI (i + 1))), (0, .ref (ad 8 2))]) (by intro z hz; simp only [List.mem_cons, List.not_mem_nil, or_false] at hz ⊢; rcases hz with rfl | rfl <;> simp) ?_
              exact ih (i + 1) V4 (by omega) (by subst hV4; exact pfX_1 hF0) (by subst hV4; rw [← h7]; have h9 := (hk.2.2 c39_1).2; simp only [ordC, if_neg s51_2, if_neg s51_5, if_pos s51_8] at h9; exact h9) (by subst hV4; rw [← hS]; simp only [L7_perform, if_neg (Nat.not_le.mpr c39_1), if_neg s51_2, if_neg s51_5, if_pos s51_8, if_neg c250_9, if_pos c256_10])
            · skip
              refine j_iload_n cx (pc := 259) dX7_perform_259 0 rfl ?_
              subst hQ; exact j_iret cx hr (by subst hV4; rw [← hS]; simp only [L7_perform, if_neg (Nat.not_le.mpr c39_1), if_neg s51_2, if_neg s51_5, if_pos s51_8, if_neg c250_9, if_neg c256_10]) (by subst hV4; rw [← hS]; simp only [L7_perform, if_neg (Nat.not_le.mpr c39_1), if_neg s51_2, if_neg s51_5, if_pos s51_8, if_neg c250_9, if_neg c256_10]) hA dX7_perform_260
        by_cases s51_11 : (F0 7 2 i) = nI 107
        · skip
          refine j_lookup cx (pc := 51) dX7_perform_51 (by decide) (off := 141) (by rw [s51_11]; decide) (tgt := 192) (by decide) ?_
          refine j_aload_n cx (pc := 192) dX7_perform_192 1 rfl ?_
          refine j_get cx (pc := 193) 85 0 rfl rfl (C := RX7) (T := TX7) (N := 6) rfl hinX7 1 (by decide) f16 rfl (v := .ref (ad 1 0)) rfl dX7_perform_193 ?_
          refine j_aload_n cx (pc := 196) dX7_perform_196 1 rfl ?_
          refine j_get cx (pc := 197) 85 0 rfl rfl (C := RX7) (T := TX7) (N := 6) rfl hinX7 5 (by decide) f36 rfl (v := .ref (ad 7 0)) rfl dX7_perform_197 ?_
          refine j_get cx (pc := 200) 86 0 rfl rfl (C := RX6) (T := TX6) (N := 7) rfl hinX6 3 (by decide) f106 rfl (v := .ref (ad 7 3)) rfl dX7_perform_200 ?_
          refine j_iload_n cx (pc := 203) dX7_perform_203 0 rfl ?_
          refine j_iald cx (pc := 204) 86 3 0 rfl rfl rfl (by omega) (by decide) dX7_perform_204 ?_
          refine j_iconst cx (pc := 205) (v := (nI 1)) dX7_perform_205 (by decide) ?_
          refine j_aload_n cx (pc := 206) dX7_perform_206 1 rfl ?_
          refine j_get cx (pc := 207) 85 0 rfl rfl (C := RX7) (T := TX7) (N := 6) rfl hinX7 5 (by decide) f36 rfl (v := .ref (ad 7 0)) rfl dX7_perform_207 ?_
          refine j_get cx (pc := 210) 86 0 rfl rfl (C := RX6) (T := TX6) (N := 7) rfl hinX6 4 (by decide) f103 rfl (v := .ref (ad 7 4)) rfl dX7_perform_210 ?_
          refine j_iload_n cx (pc := 213) dX7_perform_213 0 rfl ?_
          refine j_iald cx (pc := 214) 86 4 0 rfl rfl rfl (by omega) (by decide) dX7_perform_214 ?_
          obtain ⟨V5, hV5⟩ : ∃ z, z = setF F0 1 (C2_changeDelay (F0 1) (F0 7 3 i) (nI 1) (F0 7 4 i)).2 := ⟨_, rfl⟩
          refine j_calli cx (pc := 215) 3 (c_X2_changeDelay l D Y (ad 1) (F0 1) (F0 7 3 i) (nI 1) (F0 7 4 i) hk.1.2.1 hk.1.1) gX7_perform_X2_changeDelay rfl (by decide +kernel) rfl ⟨Nat.le_of_ble_eq_true rfl, Nat.le_of_ble_eq_true rfl⟩ (List.range' 61 12) (FB_1_s Y ad F0) (by decide +kernel) (Bs' := FB Y ad V5) (by rw [hV5]; exact FB_1_p Y ad F0 _) A1_ln 61 0 rfl rfl rfl rfl (Nat.le_of_ble_eq_true rfl) dX7_perform_215 ⟨Nat.zero_le _, Nat.zero_le _⟩ ?_
          refine j_istore_n cx (pc := 218) (lv' := [(3, .int ((C2_changeDelay (F0 1) (F0 7 3 i) (nI 1) (F0 7 4 i)).1)), (2, .int (nI i)), (0, .ref (ad 8 2))]) dX7_perform_218 (by decide) rfl ?_
          refine j_goto cx (pc := 219) (tgt := 249) dX7_perform_219 (by decide) ?_
          refine j_iload_n cx (pc := 249) dX7_perform_249 0 rfl ?_
          refine j_if_ge cx (pc := 250) (tgt := 261) dX7_perform_250 (by decide) (fun c250_12 => ?_) (fun c250_12 => ?_)
          · skip
            refine j_iinc cx (pc := 261) (v := (nI (i + 1))) (lv' := [(2, .int (nI (i + 1))), (3, .int ((C2_changeDelay (F0 1) (F0 7 3 i) (nI 1) (F0 7 4 i)).1)), (0, .ref (ad 8 2))]) dX7_perform_261 1 rfl (show nI i + nI 1 = nI (i + 1) from nI_add _ _) (by decide) rfl ?_
            refine j_goto cx (pc := 264) (tgt := 31) dX7_perform_264 (by decide) ?_
            refine j_lvm (lv' := [(2, .int (nI (i + 1))), (0, .ref (ad 8 2))]) (by intro z hz; simp only [List.mem_cons, List.not_mem_nil, or_false] at hz ⊢; rcases hz with rfl | rfl <;> simp) ?_
            exact ih (i + 1) V5 (by omega) (by subst hV5; exact pfX_1 hF0) (by subst hV5; rw [← h7]; have h9 := (hk.2.2 c39_1).2; simp only [ordC, if_neg s51_2, if_neg s51_5, if_neg s51_8, if_pos s51_11] at h9; exact h9) (by subst hV5; rw [← hS]; simp only [L7_perform, if_neg (Nat.not_le.mpr c39_1), if_neg s51_2, if_neg s51_5, if_neg s51_8, if_pos s51_11, if_pos c250_12])
          · skip
            refine j_iload_n cx (pc := 253) dX7_perform_253 0 rfl ?_
            refine j_bipush cx (pc := 254) (v := (-5)) dX7_perform_254 (by decide) ?_
            refine j_icmp_eq cx (pc := 256) (tgt := 261) dX7_perform_256 (by decide) (fun c256_13 => ?_) (fun c256_13 => ?_)
            · skip
              refine j_iinc cx (pc := 261) (v := (nI (i + 1))) (lv' := [(2, .int (nI (i + 1))), (3, .int ((C2_changeDelay (F0 1) (F0 7 3 i) (nI 1) (F0 7 4 i)).1)), (0, .ref (ad 8 2))]) dX7_perform_261 1 rfl (show nI i + nI 1 = nI (i + 1) from nI_add _ _) (by decide) rfl ?_
              refine j_goto cx (pc := 264) (tgt := 31) dX7_perform_264 (by decide) ?_
              refine j_lvm (lv' := [(2, .int (nI (i + 1))), (0, .ref (ad 8 2))]) (by intro z hz; simp only [List.mem_cons, List.not_mem_nil, or_false] at hz ⊢; rcases hz with rfl | rfl <;> simp) ?_
              exact ih (i + 1) V5 (by omega) (by subst hV5; exact pfX_1 hF0) (by subst hV5; rw [← h7]; have h9 := (hk.2.2 c39_1).2; simp only [ordC, if_neg s51_2, if_neg s51_5, if_neg s51_8, if_pos s51_11] at h9; exact h9) (by subst hV5; rw [← hS]; simp only [L7_perform, if_neg (Nat.not_le.mpr c39_1), if_neg s51_2, if_neg s51_5, if_neg s51_8, if_pos s51_11, if_neg c250_12, if_pos c256_13])
            · skip
              refine j_iload_n cx (pc := 259) dX7_perform_259 0 rfl ?_
              subst hQ; exact j_iret cx hr (by subst hV5; rw [← hS]; simp only [L7_perform, if_neg (Nat.not_le.mpr c39_1), if_neg s51_2, if_neg s51_5, if_neg s51_8, if_pos s51_11, if_neg c250_12, if_neg c256_13]) (by subst hV5; rw [← hS]; simp only [L7_perform, if_neg (Nat.not_le.mpr c39_1), if_neg s51_2, if_neg s51_5, if_neg s51_8, if_pos s51_11, if_neg c250_12, if_neg c256_13]) hA dX7_perform_260
        by_cases s51_14 : (F0 7 2 i) = nI 114
        · skip
          refine j_lookup cx (pc := 51) dX7_perform_51 (by decide) (off := 111) (by rw [s51_14]; decide) (tgt := 162) (by decide) ?_
          refine j_aload_n cx (pc := 162) dX7_perform_162 1 rfl ?_
          refine j_get cx (pc := 163) 85 0 rfl rfl (C := RX7) (T := TX7) (N := 6) rfl hinX7 1 (by decide) f16 rfl (v := .ref (ad 1 0)) rfl dX7_perform_163 ?_
          refine j_aload_n cx (pc := 166) dX7_perform_166 1 rfl ?_
          refine j_get cx (pc := 167) 85 0 rfl rfl (C := RX7) (T := TX7) (N := 6) rfl hinX7 5 (by decide) f36 rfl (v := .ref (ad 7 0)) rfl dX7_perform_167 ?_
          refine j_get cx (pc := 170) 86 0 rfl rfl (C := RX6) (T := TX6) (N := 7) rfl hinX6 3 (by decide) f106 rfl (v := .ref (ad 7 3)) rfl dX7_perform_170 ?_
          refine j_iload_n cx (pc := 173) dX7_perform_173 0 rfl ?_
          refine j_iald cx (pc := 174) 86 3 0 rfl rfl rfl (by omega) (by decide) dX7_perform_174 ?_
          refine j_iconst cx (pc := 175) (v := (nI 0)) dX7_perform_175 (by decide) ?_
          refine j_aload_n cx (pc := 176) dX7_perform_176 1 rfl ?_
          refine j_get cx (pc := 177) 85 0 rfl rfl (C := RX7) (T := TX7) (N := 6) rfl hinX7 5 (by decide) f36 rfl (v := .ref (ad 7 0)) rfl dX7_perform_177 ?_
          refine j_get cx (pc := 180) 86 0 rfl rfl (C := RX6) (T := TX6) (N := 7) rfl hinX6 4 (by decide) f103 rfl (v := .ref (ad 7 4)) rfl dX7_perform_180 ?_
          refine j_iload_n cx (pc := 183) dX7_perform_183 0 rfl ?_
          refine j_iald cx (pc := 184) 86 4 0 rfl rfl rfl (by omega) (by decide) dX7_perform_184 ?_
          obtain ⟨V6, hV6⟩ : ∃ z, z = setF F0 1 (C2_changeDelay (F0 1) (F0 7 3 i) (nI 0) (F0 7 4 i)).2 := ⟨_, rfl⟩
          refine j_calli cx (pc := 185) 3 (c_X2_changeDelay l D Y (ad 1) (F0 1) (F0 7 3 i) (nI 0) (F0 7 4 i) hk.1.2.1 hk.1.1) gX7_perform_X2_changeDelay rfl (by decide +kernel) rfl ⟨Nat.le_of_ble_eq_true rfl, Nat.le_of_ble_eq_true rfl⟩ (List.range' 61 12) (FB_1_s Y ad F0) (by decide +kernel) (Bs' := FB Y ad V6) (by rw [hV6]; exact FB_1_p Y ad F0 _) A1_ln 61 0 rfl rfl rfl rfl (Nat.le_of_ble_eq_true rfl) dX7_perform_185 ⟨Nat.zero_le _, Nat.zero_le _⟩ ?_
          refine j_istore_n cx (pc := 188) (lv' := [(3, .int ((C2_changeDelay (F0 1) (F0 7 3 i) (nI 0) (F0 7 4 i)).1)), (2, .int (nI i)), (0, .ref (ad 8 2))]) dX7_perform_188 (by decide) rfl ?_
          refine j_goto cx (pc := 189) (tgt := 249) dX7_perform_189 (by decide) ?_
          refine j_iload_n cx (pc := 249) dX7_perform_249 0 rfl ?_
          refine j_if_ge cx (pc := 250) (tgt := 261) dX7_perform_250 (by decide) (fun c250_15 => ?_) (fun c250_15 => ?_)
          · skip
            refine j_iinc cx (pc := 261) (v := (nI (i + 1))) (lv' := [(2, .int (nI (i + 1))), (3, .int ((C2_changeDelay (F0 1) (F0 7 3 i) (nI 0) (F0 7 4 i)).1)), (0, .ref (ad 8 2))]) dX7_perform_261 1 rfl (show nI i + nI 1 = nI (i + 1) from nI_add _ _) (by decide) rfl ?_
            refine j_goto cx (pc := 264) (tgt := 31) dX7_perform_264 (by decide) ?_
            refine j_lvm (lv' := [(2, .int (nI (i + 1))), (0, .ref (ad 8 2))]) (by intro z hz; simp only [List.mem_cons, List.not_mem_nil, or_false] at hz ⊢; rcases hz with rfl | rfl <;> simp) ?_
            exact ih (i + 1) V6 (by omega) (by subst hV6; exact pfX_1 hF0) (by subst hV6; rw [← h7]; have h9 := (hk.2.2 c39_1).2; simp only [ordC, if_neg s51_2, if_neg s51_5, if_neg s51_8, if_neg s51_11, if_pos s51_14] at h9; exact h9) (by subst hV6; rw [← hS]; simp only [L7_perform, if_neg (Nat.not_le.mpr c39_1), if_neg s51_2, if_neg s51_5, if_neg s51_8, if_neg s51_11, if_pos s51_14, if_pos c250_15])
          · skip
            refine j_iload_n cx (pc := 253) dX7_perform_253 0 rfl ?_
            refine j_bipush cx (pc := 254) (v := (-5)) dX7_perform_254 (by decide) ?_
            refine j_icmp_eq cx (pc := 256) (tgt := 261) dX7_perform_256 (by decide) (fun c256_16 => ?_) (fun c256_16 => ?_)
            · skip
              refine j_iinc cx (pc := 261) (v := (nI (i + 1))) (lv' := [(2, .int (nI (i + 1))), (3, .int ((C2_changeDelay (F0 1) (F0 7 3 i) (nI 0) (F0 7 4 i)).1)), (0, .ref (ad 8 2))]) dX7_perform_261 1 rfl (show nI i + nI 1 = nI (i + 1) from nI_add _ _) (by decide) rfl ?_
              refine j_goto cx (pc := 264) (tgt := 31) dX7_perform_264 (by decide) ?_
              refine j_lvm (lv' := [(2, .int (nI (i + 1))), (0, .ref (ad 8 2))]) (by intro z hz; simp only [List.mem_cons, List.not_mem_nil, or_false] at hz ⊢; rcases hz with rfl | rfl <;> simp) ?_
              exact ih (i + 1) V6 (by omega) (by subst hV6; exact pfX_1 hF0) (by subst hV6; rw [← h7]; have h9 := (hk.2.2 c39_1).2; simp only [ordC, if_neg s51_2, if_neg s51_5, if_neg s51_8, if_neg s51_11, if_pos s51_14] at h9; exact h9) (by subst hV6; rw [← hS]; simp only [L7_perform, if_neg (Nat.not_le.mpr c39_1), if_neg s51_2, if_neg s51_5, if_neg s51_8, if_neg s51_11, if_pos s51_14, if_neg c250_15, if_pos c256_16])
            · skip
              refine j_iload_n cx (pc := 259) dX7_perform_259 0 rfl ?_
              subst hQ; exact j_iret cx hr (by subst hV6; rw [← hS]; simp only [L7_perform, if_neg (Nat.not_le.mpr c39_1), if_neg s51_2, if_neg s51_5, if_neg s51_8, if_neg s51_11, if_pos s51_14, if_neg c250_15, if_neg c256_16]) (by subst hV6; rw [← hS]; simp only [L7_perform, if_neg (Nat.not_le.mpr c39_1), if_neg s51_2, if_neg s51_5, if_neg s51_8, if_neg s51_11, if_pos s51_14, if_neg c250_15, if_neg c256_16]) hA dX7_perform_260
        refine j_lookup cx (pc := 51) dX7_perform_51 (by decide) (off := 171) (sw_def _ _ _ (by intro q hq; simp only [List.mem_cons, List.not_mem_nil, or_false] at hq; rcases hq with rfl | rfl | rfl | rfl | rfl; exact ne_toInt (by decide) s51_2; exact ne_toInt (by decide) s51_5; exact ne_toInt (by decide) s51_8; exact ne_toInt (by decide) s51_11; exact ne_toInt (by decide) s51_14)) (tgt := 222) (by decide) ?_
        refine j_aload_n cx (pc := 222) dX7_perform_222 1 rfl ?_
        refine j_get cx (pc := 223) 85 0 rfl rfl (C := RX7) (T := TX7) (N := 6) rfl hinX7 1 (by decide) f16 rfl (v := .ref (ad 1 0)) rfl dX7_perform_223 ?_
        refine j_aload_n cx (pc := 226) dX7_perform_226 1 rfl ?_
        refine j_get cx (pc := 227) 85 0 rfl rfl (C := RX7) (T := TX7) (N := 6) rfl hinX7 5 (by decide) f36 rfl (v := .ref (ad 7 0)) rfl dX7_perform_227 ?_
        refine j_get cx (pc := 230) 86 0 rfl rfl (C := RX6) (T := TX6) (N := 7) rfl hinX6 3 (by decide) f106 rfl (v := .ref (ad 7 3)) rfl dX7_perform_230 ?_
        refine j_iload_n cx (pc := 233) dX7_perform_233 0 rfl ?_
        refine j_iald cx (pc := 234) 86 3 0 rfl rfl rfl (by omega) (by decide) dX7_perform_234 ?_
        refine j_iconst cx (pc := 235) (v := (nI 2)) dX7_perform_235 (by decide) ?_
        refine j_aload_n cx (pc := 236) dX7_perform_236 1 rfl ?_
        refine j_get cx (pc := 237) 85 0 rfl rfl (C := RX7) (T := TX7) (N := 6) rfl hinX7 5 (by decide) f36 rfl (v := .ref (ad 7 0)) rfl dX7_perform_237 ?_
        refine j_get cx (pc := 240) 86 0 rfl rfl (C := RX6) (T := TX6) (N := 7) rfl hinX6 4 (by decide) f103 rfl (v := .ref (ad 7 4)) rfl dX7_perform_240 ?_
        refine j_iload_n cx (pc := 243) dX7_perform_243 0 rfl ?_
        refine j_iald cx (pc := 244) 86 4 0 rfl rfl rfl (by omega) (by decide) dX7_perform_244 ?_
        obtain ⟨V7, hV7⟩ : ∃ z, z = setF F0 1 (C2_changeDelay (F0 1) (F0 7 3 i) (nI 2) (F0 7 4 i)).2 := ⟨_, rfl⟩
        refine j_calli cx (pc := 245) 3 (c_X2_changeDelay l D Y (ad 1) (F0 1) (F0 7 3 i) (nI 2) (F0 7 4 i) hk.1.2.1 hk.1.1) gX7_perform_X2_changeDelay rfl (by decide +kernel) rfl ⟨Nat.le_of_ble_eq_true rfl, Nat.le_of_ble_eq_true rfl⟩ (List.range' 61 12) (FB_1_s Y ad F0) (by decide +kernel) (Bs' := FB Y ad V7) (by rw [hV7]; exact FB_1_p Y ad F0 _) A1_ln 61 0 rfl rfl rfl rfl (Nat.le_of_ble_eq_true rfl) dX7_perform_245 ⟨Nat.zero_le _, Nat.zero_le _⟩ ?_
        refine j_istore_n cx (pc := 248) (lv' := [(3, .int ((C2_changeDelay (F0 1) (F0 7 3 i) (nI 2) (F0 7 4 i)).1)), (2, .int (nI i)), (0, .ref (ad 8 2))]) dX7_perform_248 (by decide) rfl ?_
        refine j_iload_n cx (pc := 249) dX7_perform_249 0 rfl ?_
        refine j_if_ge cx (pc := 250) (tgt := 261) dX7_perform_250 (by decide) (fun c250_17 => ?_) (fun c250_17 => ?_)
        · skip
          refine j_iinc cx (pc := 261) (v := (nI (i + 1))) (lv' := [(2, .int (nI (i + 1))), (3, .int ((C2_changeDelay (F0 1) (F0 7 3 i) (nI 2) (F0 7 4 i)).1)), (0, .ref (ad 8 2))]) dX7_perform_261 1 rfl (show nI i + nI 1 = nI (i + 1) from nI_add _ _) (by decide) rfl ?_
          refine j_goto cx (pc := 264) (tgt := 31) dX7_perform_264 (by decide) ?_
          refine j_lvm (lv' := [(2, .int (nI (i + 1))), (0, .ref (ad 8 2))]) (by intro z hz; simp only [List.mem_cons, List.not_mem_nil, or_false] at hz ⊢; rcases hz with rfl | rfl <;> simp) ?_
          exact ih (i + 1) V7 (by omega) (by subst hV7; exact pfX_1 hF0) (by subst hV7; rw [← h7]; have h9 := (hk.2.2 c39_1).2; simp only [ordC, if_neg s51_2, if_neg s51_5, if_neg s51_8, if_neg s51_11, if_neg s51_14] at h9; exact h9) (by subst hV7; rw [← hS]; simp only [L7_perform, if_neg (Nat.not_le.mpr c39_1), if_neg s51_2, if_neg s51_5, if_neg s51_8, if_neg s51_11, if_neg s51_14, if_pos c250_17])
        · skip
          refine j_iload_n cx (pc := 253) dX7_perform_253 0 rfl ?_
          refine j_bipush cx (pc := 254) (v := (-5)) dX7_perform_254 (by decide) ?_
          refine j_icmp_eq cx (pc := 256) (tgt := 261) dX7_perform_256 (by decide) (fun c256_18 => ?_) (fun c256_18 => ?_)
          · skip
            refine j_iinc cx (pc := 261) (v := (nI (i + 1))) (lv' := [(2, .int (nI (i + 1))), (3, .int ((C2_changeDelay (F0 1) (F0 7 3 i) (nI 2) (F0 7 4 i)).1)), (0, .ref (ad 8 2))]) dX7_perform_261 1 rfl (show nI i + nI 1 = nI (i + 1) from nI_add _ _) (by decide) rfl ?_
            refine j_goto cx (pc := 264) (tgt := 31) dX7_perform_264 (by decide) ?_
            refine j_lvm (lv' := [(2, .int (nI (i + 1))), (0, .ref (ad 8 2))]) (by intro z hz; simp only [List.mem_cons, List.not_mem_nil, or_false] at hz ⊢; rcases hz with rfl | rfl <;> simp) ?_
            exact ih (i + 1) V7 (by omega) (by subst hV7; exact pfX_1 hF0) (by subst hV7; rw [← h7]; have h9 := (hk.2.2 c39_1).2; simp only [ordC, if_neg s51_2, if_neg s51_5, if_neg s51_8, if_neg s51_11, if_neg s51_14] at h9; exact h9) (by subst hV7; rw [← hS]; simp only [L7_perform, if_neg (Nat.not_le.mpr c39_1), if_neg s51_2, if_neg s51_5, if_neg s51_8, if_neg s51_11, if_neg s51_14, if_neg c250_17, if_pos c256_18])
          · skip
            refine j_iload_n cx (pc := 259) dX7_perform_259 0 rfl ?_
            subst hQ; exact j_iret cx hr (by subst hV7; rw [← hS]; simp only [L7_perform, if_neg (Nat.not_le.mpr c39_1), if_neg s51_2, if_neg s51_5, if_neg s51_8, if_neg s51_11, if_neg s51_14, if_neg c250_17, if_neg c256_18]) (by subst hV7; rw [← hS]; simp only [L7_perform, if_neg (Nat.not_le.mpr c39_1), if_neg s51_2, if_neg s51_5, if_neg s51_8, if_neg s51_11, if_neg s51_14, if_neg c250_17, if_neg c256_18]) hA dX7_perform_260
  refine j_aload_n cx (pc := 0) dX7_perform_0 0 rfl ?_
  refine j_get cx (pc := 1) 85 0 rfl rfl (C := RX7) (T := TX7) (N := 6) rfl hinX7 5 (by decide) f36 rfl (v := .ref (ad 7 0)) rfl dX7_perform_1 ?_
  obtain ⟨V1, hV1⟩ : ∃ z, z = setF F 7 (C6_readOrders (F 7) ).2 := ⟨_, rfl⟩
  refine j_calli cx (pc := 4) 0 (c_X6_readOrders l D Y (ad 7) (F 7)  ht) gX7_perform_X6_readOrders rfl (by decide +kernel) rfl ⟨Nat.le_of_ble_eq_true rfl, Nat.le_of_ble_eq_true rfl⟩ [86] rfl (by decide) (Bs' := FB Y ad V1) (by rw [hV1]; exact FB_w86 Y ad F _) A1_tx 86 0 rfl rfl rfl rfl (Nat.le_of_ble_eq_true rfl) dX7_perform_4 ⟨Nat.zero_le _, Nat.zero_le _⟩ ?_
  refine j_istore_n cx (pc := 7) (lv' := [(1, .int ((C6_readOrders (F 7) ).1)), (0, .ref (ad 8 2))]) dX7_perform_7 (by decide) rfl ?_
  refine j_iload_n cx (pc := 8) dX7_perform_8 0 rfl ?_
  refine j_iconst cx (pc := 9) (v := (-1)) dX7_perform_9 (by decide) ?_
  refine j_icmp_eq cx (pc := 10) (tgt := 18) dX7_perform_10 (by decide) (fun c10_1 => ?_) (fun c10_1 => ?_)
  · skip
    refine j_aload_n cx (pc := 18) dX7_perform_18 1 rfl ?_
    refine j_get cx (pc := 19) 85 0 rfl rfl (C := RX7) (T := TX7) (N := 6) rfl hinX7 1 (by decide) f16 rfl (v := .ref (ad 1 0)) rfl dX7_perform_19 ?_
    refine j_aload_n cx (pc := 22) dX7_perform_22 1 rfl ?_
    refine j_get cx (pc := 23) 85 0 rfl rfl (C := RX7) (T := TX7) (N := 6) rfl hinX7 0 (by decide) f12 rfl (v := .ref (ad 0 0)) rfl dX7_perform_23 ?_
    obtain ⟨V2, hV2⟩ : ∃ z, z = setF V1 1 (C2_copyFrom (V1 1) (V1 0)) := ⟨_, rfl⟩
    refine j_callv cx (pc := 26) 1 (c_X2_copyFrom l D Y (ad 1) (V1 1) (ad 0) (V1 0)  (by rw [hV1]; exact hb)) gX7_perform_X2_copyFrom rfl (by decide +kernel) rfl ⟨Nat.le_of_ble_eq_true rfl, Nat.le_of_ble_eq_true rfl⟩ (List.range' 61 12 ++ List.range' 1 12) (FB_s10 Y ad V1) (by decide +kernel) (Bs' := FB Y ad V2) (by rw [hV2]; exact FB_p10 Y ad V1 _) A2_ln 61 0 rfl rfl rfl rfl (Nat.le_of_ble_eq_true rfl) dX7_perform_26 ⟨Nat.zero_le _, Nat.zero_le _⟩ ?_
    refine j_iconst cx (pc := 29) (v := (nI 0)) dX7_perform_29 (by decide) ?_
    refine j_istore_n cx (pc := 30) (lv' := [(2, .int (nI 0)), (1, .int ((C6_readOrders (F 7) ).1)), (0, .ref (ad 8 2))]) dX7_perform_30 (by decide) rfl ?_
    refine j_lvm (lv' := [(2, .int (nI 0)), (0, .ref (ad 8 2))]) (by intro z hz; simp only [List.mem_cons, List.not_mem_nil, or_false] at hz ⊢; rcases hz with rfl | rfl <;> simp) ?_
    exact loop (21) 0 V2 rfl (by subst hV2; subst hV1; exact ⟨rfl, rfl, rfl, rfl, fun a h3 h7 => by rw [setF_ne (by omega), setF_ne h7]⟩) (by subst hV2; subst hV1; exact hok) (by subst hV2; subst hV1; simp only [C7_perform, if_pos c10_1])
  · skip
    refine j_bipush cx (pc := 13) (v := (-100)) dX7_perform_13 (by decide) ?_
    refine j_iload_n cx (pc := 15) dX7_perform_15 0 rfl ?_
    refine j_isub cx (pc := 16) dX7_perform_16 ?_
    subst hQ; exact j_iret cx hr (by subst hV1; simp only [C7_perform, if_neg c10_1]) (by subst hV1; simp only [C7_perform, if_neg c10_1]) hA dX7_perform_17
