def fsL (V : Nat → Nat → Int32) (n : Nat) : Nat → Nat → Nat → Nat
  | 0, _, a => a
  | q + 1, i, a => if n ≤ i then a else (if V 2 i = (-1) then fsL V n q (i + 1) a else fsL V n q (i + 1) (a + 1))
def C2_fullStages (V : Nat → Nat → Int32) : Int32 := nI (fsL V (tN (V 0 0)) 7 0 0)
set_option maxHeartbeats 4000000 in
set_option maxRecDepth 100000 in
theorem c_X2_fullStages (l : Launch) (D : va_G) (Y : Nat → ClassId) (ad : Nat → Nat) (V : Nat → Nat → Int32) (hst : vp_in (V 0 0) 7) : CtI l yX2_fullStages wsX2_fullStages 0 0 D (tyL Y) (LB Y ad V) [.ref (ad 0)] (C2_fullStages V) (LB Y ad V) := by
  refine CtI.intro (own := RX2) (cc := cX2_fullStages) (maxL := 3) rfl (by decide +kernel) rfl (Nat.le_of_ble_eq_true rfl) (fun p e s m args below meth c A Q hA hQ cx hr => ?_)
  have hinX2 : ∀ w ∈ wsX20, w ∈ wsX2_fullStages := by decide +kernel
  have f21 : Cond.fieldLink RX2 21 "FourPhases$Line" "held" "[I" ∈ wsX2_fullStages := by decide +kernel
  have f53 : Cond.fieldLink RX2 53 "FourPhases$Line" "stages" "I" ∈ wsX2_fullStages := by decide +kernel
  have hst7 : tN (V 0 0) < 7 := inL hst
  have loop : ∀ (q i a : Nat), i + q = 7 → a ≤ i → fsL V (tN (V 0 0)) q i a = fsL V (tN (V 0 0)) 7 0 0 → J p l e { frames := 0, cells := 0, slots := 0, locals := 0 } s m args below meth c 3 D A 0 0 Q (LB Y ad V) 4 [(2, .int (nI i)), (1, .int (nI a)), (0, .ref (ad 0))] [] := by
    intro q
    induction q with
    | zero =>
      intro i a hq ha hS
      refine j_iload_n cx (pc := 4) dX2_fullStages_4 0 rfl ?_
      refine j_aload_n cx (pc := 5) dX2_fullStages_5 2 rfl ?_
      refine j_get cx (pc := 6) 0 0 rfl rfl (C := RX2) (T := TX2) (N := 12) rfl hinX2 0 (by decide) f53 rfl (v := .int (V 0 0)) rfl dX2_fullStages_6 ?_
      refine j_top (show (V 0 0) = (nI (tN (V 0 0))) from (inN hst)) ?_
      refine j_icmpN_ge cx (pc := 9) (by omega) (by omega) (tgt := 31) dX2_fullStages_9 (by decide) (fun c9_1 => ?_) (fun c9_1 => by exfalso; omega)
      refine j_iload_n cx (pc := 31) dX2_fullStages_31 1 rfl ?_
      subst hQ; exact j_iret cx hr (by rw [C2_fullStages, ← hS]; simp only [fsL]) rfl hA dX2_fullStages_32
    | succ q ih =>
      intro i a hq ha hS
      refine j_iload_n cx (pc := 4) dX2_fullStages_4 0 rfl ?_
      refine j_aload_n cx (pc := 5) dX2_fullStages_5 2 rfl ?_
      refine j_get cx (pc := 6) 0 0 rfl rfl (C := RX2) (T := TX2) (N := 12) rfl hinX2 0 (by decide) f53 rfl (v := .int (V 0 0)) rfl dX2_fullStages_6 ?_
      refine j_top (show (V 0 0) = (nI (tN (V 0 0))) from (inN hst)) ?_
      refine j_icmpN_ge cx (pc := 9) (by omega) (by omega) (tgt := 31) dX2_fullStages_9 (by decide) (fun c9_1 => ?_) (fun c9_1 => ?_)
      · skip
        refine j_iload_n cx (pc := 31) dX2_fullStages_31 1 rfl ?_
        subst hQ; exact j_iret cx hr (by rw [C2_fullStages, ← hS]; simp only [fsL, if_pos c9_1]) rfl hA dX2_fullStages_32
      · skip
        refine j_aload_n cx (pc := 12) dX2_fullStages_12 2 rfl ?_
        refine j_get cx (pc := 13) 0 0 rfl rfl (C := RX2) (T := TX2) (N := 12) rfl hinX2 7 (by decide) f21 rfl (v := .ref (ad 3)) rfl dX2_fullStages_13 ?_
        refine j_iload_n cx (pc := 16) dX2_fullStages_16 0 rfl ?_
        refine j_iald cx (pc := 17) 0 3 0 rfl rfl rfl (by omega) (by decide) dX2_fullStages_17 ?_
        refine j_iconst cx (pc := 18) (v := (-1)) dX2_fullStages_18 (by decide) ?_
        refine j_icmp_eq cx (pc := 19) (tgt := 25) dX2_fullStages_19 (by decide) (fun c19_2 => ?_) (fun c19_2 => ?_)
        · skip
          refine j_iinc cx (pc := 25) (v := (nI (i + 1))) (lv' := [(2, .int (nI (i + 1))), (1, .int (nI a)), (0, .ref (ad 0))]) dX2_fullStages_25 0 rfl (show nI i + nI 1 = nI (i + 1) from nI_add _ _) (by decide) rfl ?_
          refine j_goto cx (pc := 28) (tgt := 4) dX2_fullStages_28 (by decide) ?_
          refine j_lvm (lv' := [(2, .int (nI (i + 1))), (1, .int (nI a)), (0, .ref (ad 0))]) (by intro z hz; simp only [List.mem_cons, List.not_mem_nil, or_false] at hz ⊢; rcases hz with rfl | rfl | rfl <;> simp) ?_
          exact ih (i + 1) a (by omega) (by omega) (by rw [← hS]; simp only [fsL, if_neg (Nat.not_le.mpr c9_1), if_pos c19_2])
        · skip
          refine j_iinc cx (pc := 22) (v := (nI (a + 1))) (lv' := [(1, .int (nI (a + 1))), (2, .int (nI i)), (0, .ref (ad 0))]) dX2_fullStages_22 1 rfl (show nI a + nI 1 = nI (a + 1) from nI_add _ _) (by decide) rfl ?_
          refine j_iinc cx (pc := 25) (v := (nI (i + 1))) (lv' := [(2, .int (nI (i + 1))), (1, .int (nI (a + 1))), (0, .ref (ad 0))]) dX2_fullStages_25 1 rfl (show nI i + nI 1 = nI (i + 1) from nI_add _ _) (by decide) rfl ?_
          refine j_goto cx (pc := 28) (tgt := 4) dX2_fullStages_28 (by decide) ?_
          refine j_lvm (lv' := [(2, .int (nI (i + 1))), (1, .int (nI (a + 1))), (0, .ref (ad 0))]) (by intro z hz; simp only [List.mem_cons, List.not_mem_nil, or_false] at hz ⊢; rcases hz with rfl | rfl | rfl <;> simp) ?_
          exact ih (i + 1) (a + 1) (by omega) (by omega) (by rw [← hS]; simp only [fsL, if_neg (Nat.not_le.mpr c9_1), if_neg c19_2])
  refine j_iconst cx (pc := 0) (v := (nI 0)) dX2_fullStages_0 (by decide) ?_
  refine j_istore_n cx (pc := 1) (lv' := [(1, .int (nI 0)), (0, .ref (ad 0))]) dX2_fullStages_1 (by decide) rfl ?_
  refine j_iconst cx (pc := 2) (v := (nI 0)) dX2_fullStages_2 (by decide) ?_
  refine j_istore_n cx (pc := 3) (lv' := [(2, .int (nI 0)), (1, .int (nI 0)), (0, .ref (ad 0))]) dX2_fullStages_3 (by decide) rfl ?_
  refine j_lvm (lv' := [(2, .int (nI 0)), (1, .int (nI 0)), (0, .ref (ad 0))]) (by intro z hz; simp only [List.mem_cons, List.not_mem_nil, or_false] at hz ⊢; rcases hz with rfl | rfl | rfl <;> simp) ?_
  exact loop 7 0 0 rfl (Nat.le_refl 0) rfl
/-- one arrival -/
def lauS (V : Nat → Nat → Int32) : Nat → Nat → Int32 :=
  let V1 := up1 V 0 1 (C0_firstTime (chU V))
  let lk := tN (C0_firstLink (chU V1))
  let V2 := chS V1 (C0_removeFirst (chU V1))
  let V3 := up1 V2 0 4 (V2 0 4 + nI 1)
  if C2_hasLink V3 (C0_firstLink (chU V1)) = 0 then V3
  else if C0_firstWire (chU V1) = 0 then C2_letRequestArrive V3 lk (C0_firstValue (chU V1))
  else if C0_firstWire (chU V1) = nI 1 then C2_letAnswerArrive V3 lk (C0_firstValue (chU V1))
  else up1 V3 (11 + lk) 5 (C0_firstValue (chU V1))
/-- whether one arrives that is due: the loop's own test -/
def lauD (T : Int32) (V : Nat → Nat → Int32) : Prop := C2_isQuiet V = 0 ∧ ¬ T < C0_firstTime (chU V)
def lauL (T : Int32) : Nat → (Nat → Nat → Int32) → Nat → Nat → Int32
  | 0, V => V
  | q + 1, V => if C2_isQuiet V = 0 then (if T < C0_firstTime (chU V) then V else lauL T q (lauS V)) else V
/-- what the code needs of a line on its way -/
def WF (V : Nat → Nat → Int32) : Prop := chOK (chU V) ∧ vp_in (V 0 0) 7 ∧ ¬ V 7 0 < 0 ∧ ¬ V 0 3 < 0 ∧ vp_in (V 27 0) 21 ∧ vp_in (V 28 0) 21
def lauOK (T : Int32) : Nat → (Nat → Nat → Int32) → Prop
  | 0, V => WF V
  | q + 1, V => WF V ∧ (C2_isQuiet V = 0 → ¬ T < C0_firstTime (chU V) → lauOK T q (lauS V))
theorem lauOK_wf {T : Int32} {q : Nat} {V : Nat → Nat → Int32} (h : lauOK T q V) : WF V := by
  cases q with
  | zero => exact h
  | succ q => exact h.1
def C2_letArriveUpTo (V : Nat → Nat → Int32) (T : Int32) : Nat → Nat → Int32 := lauL T 1000000 V
theorem ok_remove {U : Nat → Nat → Int32} (h : chOK U) : chOK (C0_removeFirst U) := by
  unfold C0_removeFirst
  split
  · exact h
  · rename_i c
    have e := inN h.2
    have l := inL h.2
    have p : 0 < tN (U 0 1) := by
      rcases Nat.eq_zero_or_pos (tN (U 0 1)) with q | q
      · exact absurd (by rw [e, q]; decide) c
      · exact q
    refine ⟨vp_in_nI' (Nat.mod_lt _ (by decide)), ?_⟩
    show vp_in (U 0 1 - nI 1) 65
    rw [e, pk_sub (by omega)]
    exact vp_in_nI' (by omega)
set_option maxHeartbeats 4000000 in
set_option maxRecDepth 100000 in
theorem c_X2_letArriveUpTo (l : Launch) (D : va_G) (Y : Nat → ClassId) (ad : Nat → Nat) (V : Nat → Nat → Int32) (T : Int32) (hok : lauOK T 1000000 V) : CtV l yX2_letArriveUpTo wsX2_letArriveUpTo 4 96 D (tyL Y) (LB Y ad V) [.ref (ad 0), .int T] (LB Y ad (C2_letArriveUpTo V T)) := by
  refine CtV.intro (own := RX2) (cc := cX2_letArriveUpTo) (maxL := 6) rfl (by decide +kernel) rfl (Nat.le_of_ble_eq_true rfl) (fun p e s m args below meth c A Q hA hQ cx hr => ?_)
  have hinX2 : ∀ w ∈ wsX20, w ∈ wsX2_letArriveUpTo := by decide +kernel
  have hinX3 : ∀ w ∈ wsX30, w ∈ wsX2_letArriveUpTo := by decide +kernel
  have f17 : Cond.fieldLink RX2 17 "FourPhases$Line" "links" "[LFourPhases$Link;" ∈ wsX2_letArriveUpTo := by decide +kernel
  have f33 : Cond.fieldLink RX2 33 "FourPhases$Line" "underWay" "LFourPhases$Changes;" ∈ wsX2_letArriveUpTo := by decide +kernel
  have f57 : Cond.fieldLink RX2 57 "FourPhases$Line" "time" "I" ∈ wsX2_letArriveUpTo := by decide +kernel
  have f66 : Cond.fieldLink RX2 66 "FourPhases$Line" "arrivedChanges" "I" ∈ wsX2_letArriveUpTo := by decide +kernel
  have f148 : Cond.fieldLink RX2 148 "FourPhases$Link" "dataAtEnd" "I" ∈ wsX2_letArriveUpTo := by decide +kernel
  have loop : ∀ (q i : Nat) (V0 : Nat → Nat → Int32), i + q = 1000000 → lauOK T q V0 → lauL T q V0 = lauL T 1000000 V → J p l e { frames := 4, cells := 0, slots := 0, locals := 96 } s m args below meth c 6 D A 0 0 Q (LB Y ad V0) 2 [(2, .int (nI i)), (0, .ref (ad 0)), (1, .int T)] [] := by
    intro q
    induction q with
    | zero =>
      intro i V0 hq hok hS
      have hwf : WF V0 := lauOK_wf hok
      refine j_iload_n cx (pc := 2) dX2_letArriveUpTo_2 0 rfl ?_
      refine j_ldc cx (pc := 3) (v := (nI 1000000)) (show Cond.constant RX2 118 (1000000) ∈ wsX2_letArriveUpTo from by decide +kernel) dX2_letArriveUpTo_3 ?_
      refine j_icmpN_ge cx (pc := 5) (by omega) (by decide) (tgt := 139) dX2_letArriveUpTo_5 (by decide) (fun c5_1 => ?_) (fun c5_1 => by exfalso; omega)
      subst hQ; exact j_vret cx hr (by rw [C2_letArriveUpTo, ← hS]; simp only [lauL]) hA dX2_letArriveUpTo_139
    | succ q ih =>
      intro i V0 hq hok hS
      have hwf : WF V0 := lauOK_wf hok
      refine j_iload_n cx (pc := 2) dX2_letArriveUpTo_2 0 rfl ?_
      refine j_ldc cx (pc := 3) (v := (nI 1000000)) (show Cond.constant RX2 118 (1000000) ∈ wsX2_letArriveUpTo from by decide +kernel) dX2_letArriveUpTo_3 ?_
      refine j_icmpN_ge cx (pc := 5) (by omega) (by decide) (tgt := 139) dX2_letArriveUpTo_5 (by decide) (fun c5_1 => by exfalso; omega) (fun c5_1 => ?_)
      refine j_aload_n cx (pc := 8) dX2_letArriveUpTo_8 1 rfl ?_
      refine j_calli cx (pc := 9) 0 (c_X2_isQuiet l D Y ad V0  ) gX2_letArriveUpTo_X2_isQuiet rfl (by decide +kernel) rfl ⟨Nat.le_of_ble_eq_true rfl, Nat.le_of_ble_eq_true rfl⟩ [0, 1, 2, 3, 4, 5, 6, 7, 8, 9, 10, 11] rfl (by decide) (Bs' := LB Y ad V0) rfl rfl 0 0 rfl rfl rfl rfl (Nat.le_of_ble_eq_true rfl) dX2_letArriveUpTo_9 ⟨Nat.zero_le _, Nat.zero_le _⟩ ?_
      refine j_if_ne cx (pc := 12) (tgt := 139) dX2_letArriveUpTo_12 (by decide) (fun c12_2 => ?_) (fun c12_2 => ?_)
      · skip
        subst hQ; exact j_vret cx hr (by rw [C2_letArriveUpTo, ← hS]; simp only [lauL, if_neg c12_2]) hA dX2_letArriveUpTo_139
      · skip
        refine j_aload_n cx (pc := 15) dX2_letArriveUpTo_15 1 rfl ?_
        refine j_get cx (pc := 16) 0 0 rfl rfl (C := RX2) (T := TX2) (N := 12) rfl hinX2 9 (by decide) f33 rfl (v := .ref (ad 5)) rfl dX2_letArriveUpTo_16 ?_
        refine j_calli cx (pc := 19) 0 (c_X0_firstTime l D Y (ad 5) (ad 6) (ad 7) (chU V0)  hwf.1) gX2_letArriveUpTo_X0_firstTime rfl (by decide +kernel) rfl ⟨Nat.le_of_ble_eq_true rfl, Nat.le_of_ble_eq_true rfl⟩ [1] rfl (by decide) (Bs' := LB Y ad V0) rfl rfl 1 0 rfl rfl rfl rfl (Nat.le_of_ble_eq_true rfl) dX2_letArriveUpTo_19 ⟨Nat.zero_le _, Nat.zero_le _⟩ ?_
        refine j_iload_n cx (pc := 22) dX2_letArriveUpTo_22 2 rfl ?_
        refine j_icmp_gt cx (pc := 23) (tgt := 139) dX2_letArriveUpTo_23 (by decide) (fun c23_3 => ?_) (fun c23_3 => ?_)
        · skip
          subst hQ; exact j_vret cx hr (by rw [C2_letArriveUpTo, ← hS]; simp only [lauL, if_pos c12_2, if_pos c23_3]) hA dX2_letArriveUpTo_139
        · skip
          refine j_aload_n cx (pc := 26) dX2_letArriveUpTo_26 1 rfl ?_
          refine j_aload_n cx (pc := 27) dX2_letArriveUpTo_27 1 rfl ?_
          refine j_get cx (pc := 28) 0 0 rfl rfl (C := RX2) (T := TX2) (N := 12) rfl hinX2 9 (by decide) f33 rfl (v := .ref (ad 5)) rfl dX2_letArriveUpTo_28 ?_
          refine j_calli cx (pc := 31) 0 (c_X0_firstTime l D Y (ad 5) (ad 6) (ad 7) (chU V0)  hwf.1) gX2_letArriveUpTo_X0_firstTime rfl (by decide +kernel) rfl ⟨Nat.le_of_ble_eq_true rfl, Nat.le_of_ble_eq_true rfl⟩ [1] rfl (by decide) (Bs' := LB Y ad V0) rfl rfl 1 0 rfl rfl rfl rfl (Nat.le_of_ble_eq_true rfl) dX2_letArriveUpTo_31 ⟨Nat.zero_le _, Nat.zero_le _⟩ ?_
          obtain ⟨V1, hV1⟩ : ∃ z, z = up1 V0 0 1 (C0_firstTime (chU V0) ) := ⟨_, rfl⟩
          have okV1 : chOK (chU V1) := by rw [hV1]; exact okc_set (by decide) hwf.1
          refine j_put cx (pc := 34) 0 0 rfl rfl (C := RX2) (T := TX2) (N := 12) rfl hinX2 tyX2 tyX2_ok nmX2 1 (by decide) f57 rfl rfl rfl rfl (Nat.le_of_ble_eq_true rfl) (Bs' := LB Y ad V1) (by rw [hV1]; rfl) dX2_letArriveUpTo_34 ?_
          refine j_aload_n cx (pc := 37) dX2_letArriveUpTo_37 1 rfl ?_
          refine j_get cx (pc := 38) 0 0 rfl rfl (C := RX2) (T := TX2) (N := 12) rfl hinX2 9 (by decide) f33 rfl (v := .ref (ad 5)) rfl dX2_letArriveUpTo_38 ?_
          refine j_calli cx (pc := 41) 0 (c_X0_firstLink l D Y (ad 5) (ad 6) (ad 7) (chU V1)  okV1) gX2_letArriveUpTo_X0_firstLink rfl (by decide +kernel) rfl ⟨Nat.le_of_ble_eq_true rfl, Nat.le_of_ble_eq_true rfl⟩ [1] rfl (by decide) (Bs' := LB Y ad V1) rfl rfl 1 0 rfl rfl rfl rfl (Nat.le_of_ble_eq_true rfl) dX2_letArriveUpTo_41 ⟨Nat.zero_le _, Nat.zero_le _⟩ ?_
          refine j_istore_n cx (pc := 44) (lv' := [(3, .int (C0_firstLink (chU V1) )), (2, .int (nI i)), (0, .ref (ad 0)), (1, .int T)]) dX2_letArriveUpTo_44 (by decide) rfl ?_
          refine j_aload_n cx (pc := 45) dX2_letArriveUpTo_45 2 rfl ?_
          refine j_get cx (pc := 46) 0 0 rfl rfl (C := RX2) (T := TX2) (N := 12) rfl hinX2 9 (by decide) f33 rfl (v := .ref (ad 5)) rfl dX2_letArriveUpTo_46 ?_
          refine j_calli cx (pc := 49) 0 (c_X0_firstWire l D Y (ad 5) (ad 6) (ad 7) (chU V1)  okV1) gX2_letArriveUpTo_X0_firstWire rfl (by decide +kernel) rfl ⟨Nat.le_of_ble_eq_true rfl, Nat.le_of_ble_eq_true rfl⟩ [1] rfl (by decide) (Bs' := LB Y ad V1) rfl rfl 1 0 rfl rfl rfl rfl (Nat.le_of_ble_eq_true rfl) dX2_letArriveUpTo_49 ⟨Nat.zero_le _, Nat.zero_le _⟩ ?_
          refine j_istore cx (pc := 52) (lv' := [(4, .int (C0_firstWire (chU V1) )), (3, .int (C0_firstLink (chU V1) )), (2, .int (nI i)), (0, .ref (ad 0)), (1, .int T)]) dX2_letArriveUpTo_52 (by decide) rfl ?_
          refine j_aload_n cx (pc := 54) dX2_letArriveUpTo_54 3 rfl ?_
          refine j_get cx (pc := 55) 0 0 rfl rfl (C := RX2) (T := TX2) (N := 12) rfl hinX2 9 (by decide) f33 rfl (v := .ref (ad 5)) rfl dX2_letArriveUpTo_55 ?_
          refine j_calli cx (pc := 58) 0 (c_X0_firstValue l D Y (ad 5) (ad 6) (ad 7) (chU V1)  okV1) gX2_letArriveUpTo_X0_firstValue rfl (by decide +kernel) rfl ⟨Nat.le_of_ble_eq_true rfl, Nat.le_of_ble_eq_true rfl⟩ [1] rfl (by decide) (Bs' := LB Y ad V1) rfl rfl 1 0 rfl rfl rfl rfl (Nat.le_of_ble_eq_true rfl) dX2_letArriveUpTo_58 ⟨Nat.zero_le _, Nat.zero_le _⟩ ?_
          refine j_istore cx (pc := 61) (lv' := [(5, .int (C0_firstValue (chU V1) )), (4, .int (C0_firstWire (chU V1) )), (3, .int (C0_firstLink (chU V1) )), (2, .int (nI i)), (0, .ref (ad 0)), (1, .int T)]) dX2_letArriveUpTo_61 (by decide) rfl ?_
          refine j_aload_n cx (pc := 63) dX2_letArriveUpTo_63 4 rfl ?_
          refine j_get cx (pc := 64) 0 0 rfl rfl (C := RX2) (T := TX2) (N := 12) rfl hinX2 9 (by decide) f33 rfl (v := .ref (ad 5)) rfl dX2_letArriveUpTo_64 ?_
          obtain ⟨V2, hV2⟩ : ∃ z, z = chS V1 (C0_removeFirst (chU V1) ) := ⟨_, rfl⟩
          have okV2 : chOK (chU V2) := by rw [hV2]; exact okc_ch (ok_remove okV1)
          refine j_callv cx (pc := 67) 0 (c_X0_removeFirst l D Y (ad 5) (ad 6) (ad 7) (chU V1)  okV1) gX2_letArriveUpTo_X0_removeFirst rfl (by decide +kernel) rfl ⟨Nat.le_of_ble_eq_true rfl, Nat.le_of_ble_eq_true rfl⟩ [1] rfl (by decide) (Bs' := LB Y ad V2) (by rw [hV2]; exact P1_ch Y ad V1 (C0_removeFirst (chU V1) )) A1_ch 1 0 rfl rfl rfl rfl (Nat.le_of_ble_eq_true rfl) dX2_letArriveUpTo_67 ⟨Nat.zero_le _, Nat.zero_le _⟩ ?_
          refine j_aload_n cx (pc := 70) dX2_letArriveUpTo_70 4 rfl ?_
          refine j_dup cx (pc := 71) dX2_letArriveUpTo_71 rfl ?_
          refine j_get cx (pc := 72) 0 0 rfl rfl (C := RX2) (T := TX2) (N := 12) rfl hinX2 4 (by decide) f66 rfl (v := .int (V2 0 4)) rfl dX2_letArriveUpTo_72 ?_
          refine j_iconst cx (pc := 75) (v := (nI 1)) dX2_letArriveUpTo_75 (by decide) ?_
          refine j_iadd cx (pc := 76) dX2_letArriveUpTo_76 ?_
          obtain ⟨V3, hV3⟩ : ∃ z, z = up1 V2 0 4 ((V2 0 4) + (nI 1)) := ⟨_, rfl⟩
          have okV3 : chOK (chU V3) := by rw [hV3]; exact okc_set (by decide) okV2
          refine j_put cx (pc := 77) 0 0 rfl rfl (C := RX2) (T := TX2) (N := 12) rfl hinX2 tyX2 tyX2_ok nmX2 4 (by decide) f66 rfl rfl rfl rfl (Nat.le_of_ble_eq_true rfl) (Bs' := LB Y ad V3) (by rw [hV3]; rfl) dX2_letArriveUpTo_77 ?_
          refine j_aload_n cx (pc := 80) dX2_letArriveUpTo_80 4 rfl ?_
          refine j_iload_n cx (pc := 81) dX2_letArriveUpTo_81 2 rfl ?_
          refine j_calli cx (pc := 82) 1 (c_X2_hasLink l D Y ad V3 (C0_firstLink (chU V1) ) ) gX2_letArriveUpTo_X2_hasLink rfl (by decide +kernel) rfl ⟨Nat.le_of_ble_eq_true rfl, Nat.le_of_ble_eq_true rfl⟩ [0, 1, 2, 3, 4, 5, 6, 7, 8, 9, 10, 11] rfl (by decide) (Bs' := LB Y ad V3) rfl rfl 0 0 rfl rfl rfl rfl (Nat.le_of_ble_eq_true rfl) dX2_letArriveUpTo_82 ⟨Nat.zero_le _, Nat.zero_le _⟩ ?_
          refine j_if_ne cx (pc := 85) (tgt := 91) dX2_letArriveUpTo_85 (by decide) (fun c85_4 => ?_) (fun c85_4 => ?_)
          · skip
            obtain ⟨lk, hlk⟩ : ∃ z : Nat, z = tN (C0_firstLink (chU V1) ) := ⟨_, rfl⟩
            have hst3 : vp_in (V3 0 0) 7 := (by rw [hV3]; rw [hV2]; rw [hV1]; exact hwf.2.1)
            have hlk0 := hl_ok hst3 c85_4
            have hlk1 : (C0_firstLink (chU V1) ) = nI lk := by rw [hlk]; exact hlk0.1
            have hlk2 : lk < 7 := by rw [hlk]; exact hlk0.2.1
            have hlk3 : lk ≤ tN (V3 0 0) := by rw [hlk]; exact hlk0.2.2
            refine j_iload cx (pc := 91) dX2_letArriveUpTo_91 1 rfl ?_
            refine j_if_ne cx (pc := 93) (tgt := 106) dX2_letArriveUpTo_93 (by decide) (fun c93_5 => ?_) (fun c93_5 => ?_)
            · skip
              refine j_iload cx (pc := 106) dX2_letArriveUpTo_106 1 rfl ?_
              refine j_iconst cx (pc := 108) (v := (nI 1)) dX2_letArriveUpTo_108 (by decide) ?_
              refine j_icmp_ne cx (pc := 109) (tgt := 122) dX2_letArriveUpTo_109 (by decide) (fun c109_6 => ?_) (fun c109_6 => ?_)
              · skip
                refine j_aload_n cx (pc := 122) dX2_letArriveUpTo_122 4 rfl ?_
                refine j_get cx (pc := 123) 0 0 rfl rfl (C := RX2) (T := TX2) (N := 12) rfl hinX2 6 (by decide) f17 rfl (v := .ref (ad 2)) rfl dX2_letArriveUpTo_123 ?_
                refine j_iload_n cx (pc := 126) dX2_letArriveUpTo_126 2 rfl ?_
                refine j_top (show (C0_firstLink (chU V1) ) = (nI lk) from hlk1) ?_
                refine j_aald cx (pc := 127) 0 2 3 rfl rfl rfl (by omega) (by decide) (a' := (ad (13 + 2 * lk))) rfl dX2_letArriveUpTo_127 ?_
                refine j_iload cx (pc := 128) dX2_letArriveUpTo_128 0 rfl ?_
                obtain ⟨V4, hV4⟩ : ∃ z, z = up1 V3 (11 + lk) 5 (C0_firstValue (chU V1) ) := ⟨_, rfl⟩
                have okV4 : chOK (chU V4) := by rw [hV4]; exact okc_set (by omega) okV3
                refine j_put cx (pc := 130) (3 + lk) 0 (LB_lk Y ad V3 hlk2) rfl (C := RX3) (T := TX3) (N := 10) rfl hinX3 tyX3 tyX3_ok nmX3 6 (by decide) f148 rfl rfl rfl rfl (Nat.le_of_ble_eq_true rfl) (Bs' := LB Y ad V4) (by rw [hV4]; exact LB_lkF Y ad V3 hlk2 (upd (V3 (11 + lk)) 5 (C0_firstValue (chU V1) ))) dX2_letArriveUpTo_130 ?_
                refine j_iinc cx (pc := 133) (v := (nI (i + 1))) (lv' := [(2, .int (nI (i + 1))), (5, .int (C0_firstValue (chU V1) )), (4, .int (C0_firstWire (chU V1) )), (3, .int (C0_firstLink (chU V1) )), (0, .ref (ad 0)), (1, .int T)]) dX2_letArriveUpTo_133 3 rfl (show nI i + nI 1 = nI (i + 1) from nI_add _ _) (by decide) rfl ?_
                refine j_goto cx (pc := 136) (tgt := 2) dX2_letArriveUpTo_136 (by decide) ?_
                refine j_lvm (lv' := [(2, .int (nI (i + 1))), (0, .ref (ad 0)), (1, .int T)]) (by intro z hz; simp only [List.mem_cons, List.not_mem_nil, or_false] at hz ⊢; rcases hz with rfl | rfl | rfl <;> simp) ?_
                have hV : lauS V0 = V4 := by subst hV4; subst hlk; subst hV3; subst hV2; subst hV1; simp only [lauS, if_neg c85_4, if_neg c93_5, if_neg c109_6]
                exact ih (i + 1) V4 (by omega) (by rw [← hV]; exact hok.2 c12_2 c23_3) (by rw [← hS, ← hV]; simp only [lauL, if_pos c12_2, if_neg c23_3])
              · skip
                refine j_aload_n cx (pc := 112) dX2_letArriveUpTo_112 4 rfl ?_
                refine j_iload_n cx (pc := 113) dX2_letArriveUpTo_113 2 rfl ?_
                refine j_top (show (C0_firstLink (chU V1) ) = (nI lk) from hlk1) ?_
                refine j_iload cx (pc := 114) dX2_letArriveUpTo_114 0 rfl ?_
                obtain ⟨V5, hV5⟩ : ∃ z, z = (C2_letAnswerArrive V3 lk (C0_firstValue (chU V1) )) := ⟨_, rfl⟩
                refine j_callv cx (pc := 116) 2 (c_X2_letAnswerArrive l D Y ad V3 lk (C0_firstValue (chU V1) ) hlk2 (by rw [hV3]; rw [hV2]; rw [hV1]; exact hwf.2.2.2.1) (by rw [hV3]; rw [hV2]; rw [hV1]; exact hwf.2.2.2.2.1) (by rw [hV3]; rw [hV2]; rw [hV1]; exact hwf.2.2.2.2.2) okV3) gX2_letArriveUpTo_X2_letAnswerArrive rfl (by decide +kernel) rfl ⟨Nat.le_of_ble_eq_true rfl, Nat.le_of_ble_eq_true rfl⟩ [0, 1, 2, 3, 4, 5, 6, 7, 8, 9, 10, 11] rfl (by decide) (Bs' := LB Y ad V5) (by rw [hV5]; exact P1_ln V3 (C2_letAnswerArrive V3 lk (C0_firstValue (chU V1) ))) A1_ln 0 0 rfl rfl rfl rfl (Nat.le_of_ble_eq_true rfl) dX2_letArriveUpTo_116 ⟨Nat.zero_le _, Nat.zero_le _⟩ ?_
                refine j_goto cx (pc := 119) (tgt := 133) dX2_letArriveUpTo_119 (by decide) ?_
                refine j_iinc cx (pc := 133) (v := (nI (i + 1))) (lv' := [(2, .int (nI (i + 1))), (5, .int (C0_firstValue (chU V1) )), (4, .int (C0_firstWire (chU V1) )), (3, .int (C0_firstLink (chU V1) )), (0, .ref (ad 0)), (1, .int T)]) dX2_letArriveUpTo_133 3 rfl (show nI i + nI 1 = nI (i + 1) from nI_add _ _) (by decide) rfl ?_
                refine j_goto cx (pc := 136) (tgt := 2) dX2_letArriveUpTo_136 (by decide) ?_
                refine j_lvm (lv' := [(2, .int (nI (i + 1))), (0, .ref (ad 0)), (1, .int T)]) (by intro z hz; simp only [List.mem_cons, List.not_mem_nil, or_false] at hz ⊢; rcases hz with rfl | rfl | rfl <;> simp) ?_
                have hV : lauS V0 = V5 := by subst hV5; subst hlk; subst hV3; subst hV2; subst hV1; simp only [lauS, if_neg c85_4, if_neg c93_5, if_pos c109_6]
                exact ih (i + 1) V5 (by omega) (by rw [← hV]; exact hok.2 c12_2 c23_3) (by rw [← hS, ← hV]; simp only [lauL, if_pos c12_2, if_neg c23_3])
            · skip
              refine j_aload_n cx (pc := 96) dX2_letArriveUpTo_96 4 rfl ?_
              refine j_iload_n cx (pc := 97) dX2_letArriveUpTo_97 2 rfl ?_
              refine j_top (show (C0_firstLink (chU V1) ) = (nI lk) from hlk1) ?_
              refine j_iload cx (pc := 98) dX2_letArriveUpTo_98 0 rfl ?_
              obtain ⟨V6, hV6⟩ : ∃ z, z = (C2_letRequestArrive V3 lk (C0_firstValue (chU V1) )) := ⟨_, rfl⟩
              refine j_callv cx (pc := 100) 2 (c_X2_letRequestArrive l D Y ad V3 lk (C0_firstValue (chU V1) ) hlk2 hst3 hlk3 (by rw [hV3]; rw [hV2]; rw [hV1]; exact hwf.2.2.1) okV3) gX2_letArriveUpTo_X2_letRequestArrive rfl (by decide +kernel) rfl ⟨Nat.le_of_ble_eq_true rfl, Nat.le_of_ble_eq_true rfl⟩ [0, 1, 2, 3, 4, 5, 6, 7, 8, 9, 10, 11] rfl (by decide) (Bs' := LB Y ad V6) (by rw [hV6]; exact P1_ln V3 (C2_letRequestArrive V3 lk (C0_firstValue (chU V1) ))) A1_ln 0 0 rfl rfl rfl rfl (Nat.le_of_ble_eq_true rfl) dX2_letArriveUpTo_100 ⟨Nat.zero_le _, Nat.zero_le _⟩ ?_
              refine j_goto cx (pc := 103) (tgt := 133) dX2_letArriveUpTo_103 (by decide) ?_
              refine j_iinc cx (pc := 133) (v := (nI (i + 1))) (lv' := [(2, .int (nI (i + 1))), (5, .int (C0_firstValue (chU V1) )), (4, .int (C0_firstWire (chU V1) )), (3, .int (C0_firstLink (chU V1) )), (0, .ref (ad 0)), (1, .int T)]) dX2_letArriveUpTo_133 3 rfl (show nI i + nI 1 = nI (i + 1) from nI_add _ _) (by decide) rfl ?_
              refine j_goto cx (pc := 136) (tgt := 2) dX2_letArriveUpTo_136 (by decide) ?_
              refine j_lvm (lv' := [(2, .int (nI (i + 1))), (0, .ref (ad 0)), (1, .int T)]) (by intro z hz; simp only [List.mem_cons, List.not_mem_nil, or_false] at hz ⊢; rcases hz with rfl | rfl | rfl <;> simp) ?_
              have hV : lauS V0 = V6 := by subst hV6; subst hlk; subst hV3; subst hV2; subst hV1; simp only [lauS, if_neg c85_4, if_pos c93_5]
              exact ih (i + 1) V6 (by omega) (by rw [← hV]; exact hok.2 c12_2 c23_3) (by rw [← hS, ← hV]; simp only [lauL, if_pos c12_2, if_neg c23_3])
          · skip
            refine j_goto cx (pc := 88) (tgt := 133) dX2_letArriveUpTo_88 (by decide) ?_
            refine j_iinc cx (pc := 133) (v := (nI (i + 1))) (lv' := [(2, .int (nI (i + 1))), (5, .int (C0_firstValue (chU V1) )), (4, .int (C0_firstWire (chU V1) )), (3, .int (C0_firstLink (chU V1) )), (0, .ref (ad 0)), (1, .int T)]) dX2_letArriveUpTo_133 3 rfl (show nI i + nI 1 = nI (i + 1) from nI_add _ _) (by decide) rfl ?_
            refine j_goto cx (pc := 136) (tgt := 2) dX2_letArriveUpTo_136 (by decide) ?_
            refine j_lvm (lv' := [(2, .int (nI (i + 1))), (0, .ref (ad 0)), (1, .int T)]) (by intro z hz; simp only [List.mem_cons, List.not_mem_nil, or_false] at hz ⊢; rcases hz with rfl | rfl | rfl <;> simp) ?_
            have hV : lauS V0 = V3 := by subst hV3; subst hV2; subst hV1; simp only [lauS, if_pos c85_4]
            exact ih (i + 1) V3 (by omega) (by rw [← hV]; exact hok.2 c12_2 c23_3) (by rw [← hS, ← hV]; simp only [lauL, if_pos c12_2, if_neg c23_3])
  refine j_iconst cx (pc := 0) (v := (nI 0)) dX2_letArriveUpTo_0 (by decide) ?_
  refine j_istore_n cx (pc := 1) (lv' := [(2, .int (nI 0)), (0, .ref (ad 0)), (1, .int T)]) dX2_letArriveUpTo_1 (by decide) rfl ?_
  exact loop 1000000 0 V rfl hok rfl
