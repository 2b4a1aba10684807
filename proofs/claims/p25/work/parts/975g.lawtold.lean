/-! the number told of all answers -/
def tdT (tot : Nat → Int32) : Nat → Int64
  | 0 => 101
  | k + 1 => 31 * tdT tot k + (tot k).toInt64
def tdK (lk : Nat → Int32) (v : Int64) : Nat → Int64
  | 0 => v
  | k + 1 => 31 * tdK lk v k + (lk k).toInt64
def tdL (lk : Nat → Nat → Int32) (stg : Nat → Int32) (v : Int64) : Nat → Int64
  | 0 => v
  | i + 1 => 31 * tdK (lk i) (tdL lk stg v i) 12 + (stg i).toInt64
def toldV (F : Nat → Nat → Nat → Int32) : Int64 := 31 * tdL (fun i k => C7_link F (nI i) (nI k)) (fun i => C7_stage F (nI i)) (tdT (fun k => C7_total F (nI k)) 13) 7 + (C7_next F).toInt64
theorem tdT_eq {f g : Nat → Int32} : ∀ n, (∀ k, k < n → f k = g k) → tdT f n = tdT g n
  | 0, _ => rfl
  | n + 1, h => by
    unfold tdT
    rw [tdT_eq n (fun k hk => h k (by omega)), h n (by omega)]
theorem told_eq {F F' : Nat → Nat → Nat → Int32} (h1 : ∀ k, k < 13 → C7_total F' (nI k) = C7_total F (nI k)) (h2 : ∀ i k : Int32, C7_link F' i k = C7_link F i k) (h3 : ∀ i : Int32, C7_stage F' i = C7_stage F i) (h4 : C7_next F' = C7_next F) : toldV F' = toldV F := by
  unfold toldV
  rw [tdT_eq 13 h1, h4, show (fun i k => C7_link F' (nI i) (nI k)) = (fun i k : Nat => C7_link F (nI i) (nI k)) from funext fun i => funext fun k => h2 _ _, show (fun i => C7_stage F' (nI i)) = (fun i : Nat => C7_stage F (nI i)) from funext fun i => h3 _]
set_option maxHeartbeats 4000000 in
set_option maxRecDepth 100000 in
theorem c_L_told (l : Launch) (D : va_G) (Y : Nat → ClassId) (ad : Nat → Nat → Nat) (F : Nat → Nat → Nat → Int32) (hst : vp_in (F 0 0 0) 7) (hc : chOK (chU (F 0))) : CtL l yL_told wsL_told 2 44 D (tyL Y) (FB Y ad F) [.ref (ad 8 2)] (toldV F) (FB Y ad F) := by
  refine CtL.intro (own := RL) (cc := cL_told) (maxL := 5) rfl (by decide +kernel) rfl (Nat.le_of_ble_eq_true rfl) (fun p e s m args below meth c A Q hA hQ cx hr => ?_)
  have h31 : Jvm.Cond.constantLong RL 68 (31) ∈ wsL_told := by decide +kernel
  obtain ⟨T0, hT0⟩ : ∃ z, tdT (fun k => C7_total F (nI k)) 13 = z := ⟨_, rfl⟩
  obtain ⟨T1, hT1⟩ : ∃ z, tdL (fun i k => C7_link F (nI i) (nI k)) (fun i => C7_stage F (nI i)) T0 7 = z := ⟨_, rfl⟩
  have K89 : ∀ v4 : Int32, J p l e { frames := 2, cells := 0, slots := 0, locals := 44 } s m args below meth c 5 D A 0 0 Q (FB Y ad F) 89 [(3, .int v4), (1, .long T1), (0, .ref (ad 8 2))] [] := by
    intro v4
    refine j_ldc2 cx (pc := 89) h31 dL_told_89 ?_
    refine j_lload_n cx (pc := 92) dL_told_92 1 rfl ?_
    refine j_lmul cx (pc := 93) dL_told_93 ?_
    refine j_aload_n cx (pc := 94) dL_told_94 2 rfl ?_
    refine j_calli cx (pc := 95) 0 (c_X7_next l D Y ad F hc) gL_told_X7_next rfl (by decide +kernel) rfl ⟨Nat.le_of_ble_eq_true rfl, Nat.le_of_ble_eq_true rfl⟩ (List.range 87) (sel_all (FB_len Y ad F)) nd_range87 (Bs' := FB Y ad F) (putL_same (sel_all (FB_len Y ad F))) rfl 85 0 rfl rfl rfl rfl (Nat.le_of_ble_eq_true rfl) dL_told_95 ⟨Nat.zero_le _, Nat.zero_le _⟩ ?_
    refine j_i2l cx (pc := 98) dL_told_98 ?_
    refine j_ladd cx (pc := 99) dL_told_99 ?_
    subst hQ; exact j_lret cx hr (by unfold toldV; rw [hT0, hT1]) rfl hA dL_told_100
  have lk : ∀ (i : Nat) (v : Int64), (J p l e { frames := 2, cells := 0, slots := 0, locals := 44 } s m args below meth c 5 D A 0 0 Q (FB Y ad F) 70 [(3, .int (nI i)), (1, .long (tdK (fun k => C7_link F (nI i) (nI k)) v 12)), (0, .ref (ad 8 2))] []) → ∀ (n k : Nat), k + n = 12 → J p l e { frames := 2, cells := 0, slots := 0, locals := 44 } s m args below meth c 5 D A 0 0 Q (FB Y ad F) 42 [(4, .int (nI k)), (3, .int (nI i)), (1, .long (tdK (fun k => C7_link F (nI i) (nI k)) v k)), (0, .ref (ad 8 2))] [] := by
    intro i v kk n
    induction n with
    | zero =>
      intro k hk
      have e : k = 12 := by omega
      subst e
      refine j_iload cx (pc := 42) dL_told_42 0 rfl ?_
      refine j_bipush cx (pc := 44) (v := nI 12) dL_told_44 (by decide) ?_
      refine j_icmpN_ge cx (pc := 46) (by decide) (by decide) (tgt := 70) dL_told_46 (by decide) (fun _ => ?_) (fun h => by exfalso; omega)
      refine j_lv (lv' := [(3, .int (nI i)), (1, .long (tdK (fun k => C7_link F (nI i) (nI k)) v 12)), (0, .ref (ad 8 2))]) [1, 2, 3] rfl ?_
      exact kk
    | succ n ih =>
      intro k hk
      refine j_iload cx (pc := 42) dL_told_42 0 rfl ?_
      refine j_bipush cx (pc := 44) (v := nI 12) dL_told_44 (by decide) ?_
      refine j_icmpN_ge cx (pc := 46) (by omega) (by decide) (tgt := 70) dL_told_46 (by decide) (fun h => by exfalso; omega) (fun _ => ?_)
      refine j_ldc2 cx (pc := 49) h31 dL_told_49 ?_
      refine j_lload_n cx (pc := 52) dL_told_52 2 rfl ?_
      refine j_lmul cx (pc := 53) dL_told_53 ?_
      refine j_aload_n cx (pc := 54) dL_told_54 3 rfl ?_
      refine j_iload_n cx (pc := 55) dL_told_55 1 rfl ?_
      refine j_iload cx (pc := 56) dL_told_56 0 rfl ?_
      refine j_calli cx (pc := 58) 2 (c_X7_link l D Y ad F (nI i) (nI k) hst) gL_told_X7_link rfl (by decide +kernel) rfl ⟨Nat.le_of_ble_eq_true rfl, Nat.le_of_ble_eq_true rfl⟩ (List.range 87) (sel_all (FB_len Y ad F)) nd_range87 (Bs' := FB Y ad F) (putL_same (sel_all (FB_len Y ad F))) rfl 85 0 rfl rfl rfl rfl (Nat.le_of_ble_eq_true rfl) dL_told_58 ⟨Nat.zero_le _, Nat.zero_le _⟩ ?_
      refine j_i2l cx (pc := 61) dL_told_61 ?_
      refine j_ladd cx (pc := 62) dL_told_62 ?_
      refine j_lstore_n cx (pc := 63) (lv' := [(1, .long (tdK (fun k => C7_link F (nI i) (nI k)) v (k + 1))), (4, .int (nI k)), (3, .int (nI i)), (0, .ref (ad 8 2))]) dL_told_63 (by decide) rfl ?_
      refine j_iinc cx (pc := 64) (v := nI (k + 1)) (lv' := [(4, .int (nI (k + 1))), (1, .long (tdK (fun k => C7_link F (nI i) (nI k)) v (k + 1))), (3, .int (nI i)), (0, .ref (ad 8 2))]) dL_told_64 1 rfl (show nI k + nI 1 = nI (k + 1) from nI_add _ _) (by decide) rfl ?_
      refine j_goto cx (pc := 67) (tgt := 42) dL_told_67 (by decide) ?_
      refine j_lv (lv' := [(4, .int (nI (k + 1))), (3, .int (nI i)), (1, .long (tdK (fun k => C7_link F (nI i) (nI k)) v (k + 1))), (0, .ref (ad 8 2))]) [0, 2, 1, 3] rfl ?_
      exact ih (k + 1) (by omega)
  have ll : ∀ (n i : Nat), i + n = 7 → J p l e { frames := 2, cells := 0, slots := 0, locals := 44 } s m args below meth c 5 D A 0 0 Q (FB Y ad F) 33 [(3, .int (nI i)), (1, .long (tdL (fun i k => C7_link F (nI i) (nI k)) (fun i => C7_stage F (nI i)) T0 i)), (0, .ref (ad 8 2))] [] := by
    intro n
    induction n with
    | zero =>
      intro i hi
      have e : i = 7 := by omega
      subst e
      rw [hT1]
      refine j_iload_n cx (pc := 33) dL_told_33 0 rfl ?_
      refine j_bipush cx (pc := 34) (v := nI 7) dL_told_34 (by decide) ?_
      refine j_icmpN_ge cx (pc := 36) (by decide) (by decide) (tgt := 89) dL_told_36 (by decide) (fun _ => K89 _) (fun h => by exfalso; omega)
    | succ n ih =>
      intro i hi
      obtain ⟨v, hv⟩ : ∃ z, tdL (fun i k => C7_link F (nI i) (nI k)) (fun i => C7_stage F (nI i)) T0 i = z := ⟨_, rfl⟩
      rw [hv]
      refine j_iload_n cx (pc := 33) dL_told_33 0 rfl ?_
      refine j_bipush cx (pc := 34) (v := nI 7) dL_told_34 (by decide) ?_
      refine j_icmpN_ge cx (pc := 36) (by omega) (by decide) (tgt := 89) dL_told_36 (by decide) (fun h => by exfalso; omega) (fun _ => ?_)
      refine j_iconst cx (pc := 39) (v := nI 0) dL_told_39 (by decide) ?_
      refine j_istore cx (pc := 40) (lv' := [(4, .int (nI 0)), (3, .int (nI i)), (1, .long v), (0, .ref (ad 8 2))]) dL_told_40 (by decide) rfl ?_
      refine lk i v ?_ 12 0 rfl
      refine j_ldc2 cx (pc := 70) h31 dL_told_70 ?_
      refine j_lload_n cx (pc := 73) dL_told_73 1 rfl ?_
      refine j_lmul cx (pc := 74) dL_told_74 ?_
      refine j_aload_n cx (pc := 75) dL_told_75 2 rfl ?_
      refine j_iload_n cx (pc := 76) dL_told_76 0 rfl ?_
      refine j_calli cx (pc := 77) 1 (c_X7_stage l D Y ad F (nI i) hst) gL_told_X7_stage rfl (by decide +kernel) rfl ⟨Nat.le_of_ble_eq_true rfl, Nat.le_of_ble_eq_true rfl⟩ (List.range 87) (sel_all (FB_len Y ad F)) nd_range87 (Bs' := FB Y ad F) (putL_same (sel_all (FB_len Y ad F))) rfl 85 0 rfl rfl rfl rfl (Nat.le_of_ble_eq_true rfl) dL_told_77 ⟨Nat.zero_le _, Nat.zero_le _⟩ ?_
      refine j_i2l cx (pc := 80) dL_told_80 ?_
      refine j_ladd cx (pc := 81) dL_told_81 ?_
      refine j_lstore_n cx (pc := 82) (lv' := [(1, .long (31 * tdK (fun k => C7_link F (nI i) (nI k)) v 12 + (C7_stage F (nI i)).toInt64)), (3, .int (nI i)), (0, .ref (ad 8 2))]) dL_told_82 (by decide) rfl ?_
      refine j_iinc cx (pc := 83) (v := nI (i + 1)) (lv' := [(3, .int (nI (i + 1))), (1, .long (31 * tdK (fun k => C7_link F (nI i) (nI k)) v 12 + (C7_stage F (nI i)).toInt64)), (0, .ref (ad 8 2))]) dL_told_83 1 rfl (show nI i + nI 1 = nI (i + 1) from nI_add _ _) (by decide) rfl ?_
      refine j_goto cx (pc := 86) (tgt := 33) dL_told_86 (by decide) ?_
      have k := ih (i + 1) (by omega)
      have e2 : tdL (fun i k => C7_link F (nI i) (nI k)) (fun i => C7_stage F (nI i)) T0 (i + 1) = 31 * tdK (fun k => C7_link F (nI i) (nI k)) v 12 + (C7_stage F (nI i)).toInt64 := by rw [← hv]; rfl
      rw [e2] at k
      exact k
  have lt : ∀ (n k : Nat), k + n = 13 → J p l e { frames := 2, cells := 0, slots := 0, locals := 44 } s m args below meth c 5 D A 0 0 Q (FB Y ad F) 6 [(3, .int (nI k)), (1, .long (tdT (fun k => C7_total F (nI k)) k)), (0, .ref (ad 8 2))] [] := by
    intro n
    induction n with
    | zero =>
      intro k hk
      have e : k = 13 := by omega
      subst e
      rw [hT0]
      refine j_iload_n cx (pc := 6) dL_told_6 0 rfl ?_
      refine j_bipush cx (pc := 7) (v := nI 13) dL_told_7 (by decide) ?_
      refine j_icmpN_ge cx (pc := 9) (by decide) (by decide) (tgt := 31) dL_told_9 (by decide) (fun _ => ?_) (fun h => by exfalso; omega)
      refine j_iconst cx (pc := 31) (v := nI 0) dL_told_31 (by decide) ?_
      refine j_istore_n cx (pc := 32) (lv' := [(3, .int (nI 0)), (1, .long T0), (0, .ref (ad 8 2))]) dL_told_32 (by decide) rfl ?_
      exact ll 7 0 rfl
    | succ n ih =>
      intro k hk
      refine j_iload_n cx (pc := 6) dL_told_6 0 rfl ?_
      refine j_bipush cx (pc := 7) (v := nI 13) dL_told_7 (by decide) ?_
      refine j_icmpN_ge cx (pc := 9) (by omega) (by decide) (tgt := 31) dL_told_9 (by decide) (fun h => by exfalso; omega) (fun _ => ?_)
      refine j_ldc2 cx (pc := 12) h31 dL_told_12 ?_
      refine j_lload_n cx (pc := 15) dL_told_15 1 rfl ?_
      refine j_lmul cx (pc := 16) dL_told_16 ?_
      refine j_aload_n cx (pc := 17) dL_told_17 2 rfl ?_
      refine j_iload_n cx (pc := 18) dL_told_18 0 rfl ?_
      refine j_calli cx (pc := 19) 1 (c_X7_total l D Y ad F (nI k) hst) gL_told_X7_total rfl (by decide +kernel) rfl ⟨Nat.le_of_ble_eq_true rfl, Nat.le_of_ble_eq_true rfl⟩ (List.range 87) (sel_all (FB_len Y ad F)) nd_range87 (Bs' := FB Y ad F) (putL_same (sel_all (FB_len Y ad F))) rfl 85 0 rfl rfl rfl rfl (Nat.le_of_ble_eq_true rfl) dL_told_19 ⟨Nat.zero_le _, Nat.zero_le _⟩ ?_
      refine j_i2l cx (pc := 22) dL_told_22 ?_
      refine j_ladd cx (pc := 23) dL_told_23 ?_
      refine j_lstore_n cx (pc := 24) (lv' := [(1, .long (tdT (fun k => C7_total F (nI k)) (k + 1))), (3, .int (nI k)), (0, .ref (ad 8 2))]) dL_told_24 (by decide) rfl ?_
      refine j_iinc cx (pc := 25) (v := nI (k + 1)) (lv' := [(3, .int (nI (k + 1))), (1, .long (tdT (fun k => C7_total F (nI k)) (k + 1))), (0, .ref (ad 8 2))]) dL_told_25 1 rfl (show nI k + nI 1 = nI (k + 1) from nI_add _ _) (by decide) rfl ?_
      refine j_goto cx (pc := 28) (tgt := 6) dL_told_28 (by decide) ?_
      exact ih (k + 1) (by omega)
  refine j_ldc2 cx (pc := 0) (v := 101) (show Jvm.Cond.constantLong RL 66 (101) ∈ wsL_told from by decide +kernel) dL_told_0 ?_
  refine j_lstore_n cx (pc := 3) (lv' := [(1, .long 101), (0, .ref (ad 8 2))]) dL_told_3 (by decide) rfl ?_
  refine j_iconst cx (pc := 4) (v := nI 0) dL_told_4 (by decide) ?_
  refine j_istore_n cx (pc := 5) (lv' := [(3, .int (nI 0)), (1, .long 101), (0, .ref (ad 8 2))]) dL_told_5 (by decide) rfl ?_
  exact lt 13 0 rfl
set_option maxHeartbeats 4000000 in
set_option maxRecDepth 100000 in
theorem c_L_call0 (l : Launch) (D : va_G) (Y : Nat → ClassId) (ad : Nat → Nat → Nat) (F F2 : Nat → Nat → Nat → Int32) (a b v : Nat) (r : Int32) (hM : CtI l yX7_add wsX7_add 5 125 D (tyL Y) (FB Y ad F) [.ref (ad 8 2), .int (nI a), .int (nI b)] r (FB Y ad F2)) : CtI l yL_call wsL_call 6 147 D (tyL Y) (FB Y ad F) [.ref (ad 8 2), .int (nI 0), .int (nI a), .int (nI b), .int (nI v)] r (FB Y ad F2) := by
  refine CtI.intro (own := RL) (cc := cL_call) (maxL := 5) rfl (by decide +kernel) rfl (Nat.le_of_ble_eq_true rfl) (fun p e s m args below meth c A Q hA hQ cx hr => ?_)
  refine j_iload_n cx (pc := 0) dL_call_0 1 rfl ?_
  refine j_tableIn cx (pc := 1) dL_call_1 (by decide) (by decide) (off := 35) (by decide) (tgt := 36) (by decide) ?_
  refine j_aload_n cx (pc := 36) dL_call_36 0 rfl ?_
  refine j_iload_n cx (pc := 37) dL_call_37 2 rfl ?_
  refine j_iload_n cx (pc := 38) dL_call_38 3 rfl ?_
  refine j_calli cx (pc := 39) 2 hM gL_call_X7_add rfl (by decide +kernel) rfl ⟨Nat.le_of_ble_eq_true rfl, Nat.le_of_ble_eq_true rfl⟩ (List.range 87) (sel_all (FB_len Y ad F)) nd_range87 (Bs' := FB Y ad F2) (put_all (FB_len Y ad F) (FB_len Y ad F2)) A1_FB 85 0 rfl rfl rfl rfl (Nat.le_of_ble_eq_true rfl) dL_call_39 ⟨Nat.zero_le _, Nat.zero_le _⟩ ?_
  subst hQ; exact j_iret cx hr rfl rfl hA dL_call_42
set_option maxHeartbeats 4000000 in
set_option maxRecDepth 100000 in
theorem c_L_call1 (l : Launch) (D : va_G) (Y : Nat → ClassId) (ad : Nat → Nat → Nat) (F F2 : Nat → Nat → Nat → Int32) (a b v : Nat) (r : Int32) (hM : CtI l yX7_run wsX7_run 6 144 D (tyL Y) (FB Y ad F) [.ref (ad 8 2), .int (nI b)] r (FB Y ad F2)) : CtI l yL_call wsL_call 7 165 D (tyL Y) (FB Y ad F) [.ref (ad 8 2), .int (nI 1), .int (nI a), .int (nI b), .int (nI v)] r (FB Y ad F2) := by
  refine CtI.intro (own := RL) (cc := cL_call) (maxL := 5) rfl (by decide +kernel) rfl (Nat.le_of_ble_eq_true rfl) (fun p e s m args below meth c A Q hA hQ cx hr => ?_)
  refine j_iload_n cx (pc := 0) dL_call_0 1 rfl ?_
  refine j_tableIn cx (pc := 1) dL_call_1 (by decide) (by decide) (off := 42) (by decide) (tgt := 43) (by decide) ?_
  refine j_aload_n cx (pc := 43) dL_call_43 0 rfl ?_
  refine j_iload_n cx (pc := 44) dL_call_44 3 rfl ?_
  refine j_calli cx (pc := 45) 1 hM gL_call_X7_run rfl (by decide +kernel) rfl ⟨Nat.le_of_ble_eq_true rfl, Nat.le_of_ble_eq_true rfl⟩ (List.range 87) (sel_all (FB_len Y ad F)) nd_range87 (Bs' := FB Y ad F2) (put_all (FB_len Y ad F) (FB_len Y ad F2)) A1_FB 85 0 rfl rfl rfl rfl (Nat.le_of_ble_eq_true rfl) dL_call_45 ⟨Nat.zero_le _, Nat.zero_le _⟩ ?_
  subst hQ; exact j_iret cx hr rfl rfl hA dL_call_48
set_option maxHeartbeats 4000000 in
set_option maxRecDepth 100000 in
theorem c_L_call2 (l : Launch) (D : va_G) (Y : Nat → ClassId) (ad : Nat → Nat → Nat) (F F2 : Nat → Nat → Nat → Int32) (a b v : Nat) (r : Int32) (hM : CtI l yX7_setDelay wsX7_setDelay 5 125 D (tyL Y) (FB Y ad F) [.ref (ad 8 2), .int (nI a), .int (nI b), .int (nI v)] r (FB Y ad F2)) : CtI l yL_call wsL_call 6 148 D (tyL Y) (FB Y ad F) [.ref (ad 8 2), .int (nI 2), .int (nI a), .int (nI b), .int (nI v)] r (FB Y ad F2) := by
  refine CtI.intro (own := RL) (cc := cL_call) (maxL := 5) rfl (by decide +kernel) rfl (Nat.le_of_ble_eq_true rfl) (fun p e s m args below meth c A Q hA hQ cx hr => ?_)
  refine j_iload_n cx (pc := 0) dL_call_0 1 rfl ?_
  refine j_tableIn cx (pc := 1) dL_call_1 (by decide) (by decide) (off := 48) (by decide) (tgt := 49) (by decide) ?_
  refine j_aload_n cx (pc := 49) dL_call_49 0 rfl ?_
  refine j_iload_n cx (pc := 50) dL_call_50 2 rfl ?_
  refine j_iload_n cx (pc := 51) dL_call_51 3 rfl ?_
  refine j_iload cx (pc := 52) dL_call_52 4 rfl ?_
  refine j_calli cx (pc := 54) 3 hM gL_call_X7_setDelay rfl (by decide +kernel) rfl ⟨Nat.le_of_ble_eq_true rfl, Nat.le_of_ble_eq_true rfl⟩ (List.range 87) (sel_all (FB_len Y ad F)) nd_range87 (Bs' := FB Y ad F2) (put_all (FB_len Y ad F) (FB_len Y ad F2)) A1_FB 85 0 rfl rfl rfl rfl (Nat.le_of_ble_eq_true rfl) dL_call_54 ⟨Nat.zero_le _, Nat.zero_le _⟩ ?_
  subst hQ; exact j_iret cx hr rfl rfl hA dL_call_57
set_option maxHeartbeats 4000000 in
set_option maxRecDepth 100000 in
theorem c_L_call3 (l : Launch) (D : va_G) (Y : Nat → ClassId) (ad : Nat → Nat → Nat) (F F2 : Nat → Nat → Nat → Int32) (a b v : Nat) (r : Int32) (hM : CtI l yX7_set wsX7_set 5 125 D (tyL Y) (FB Y ad F) [.ref (ad 8 2), .int (nI a), .int (nI b)] r (FB Y ad F2)) : CtI l yL_call wsL_call 6 149 D (tyL Y) (FB Y ad F) [.ref (ad 8 2), .int (nI 3), .int (nI a), .int (nI b), .int (nI v)] r (FB Y ad F2) := by
  refine CtI.intro (own := RL) (cc := cL_call) (maxL := 5) rfl (by decide +kernel) rfl (Nat.le_of_ble_eq_true rfl) (fun p e s m args below meth c A Q hA hQ cx hr => ?_)
  refine j_iload_n cx (pc := 0) dL_call_0 1 rfl ?_
  refine j_tableIn cx (pc := 1) dL_call_1 (by decide) (by decide) (off := 57) (by decide) (tgt := 58) (by decide) ?_
  refine j_aload_n cx (pc := 58) dL_call_58 0 rfl ?_
  refine j_iload_n cx (pc := 59) dL_call_59 2 rfl ?_
  refine j_iload_n cx (pc := 60) dL_call_60 3 rfl ?_
  refine j_calli cx (pc := 61) 2 hM gL_call_X7_set rfl (by decide +kernel) rfl ⟨Nat.le_of_ble_eq_true rfl, Nat.le_of_ble_eq_true rfl⟩ (List.range 87) (sel_all (FB_len Y ad F)) nd_range87 (Bs' := FB Y ad F2) (put_all (FB_len Y ad F) (FB_len Y ad F2)) A1_FB 85 0 rfl rfl rfl rfl (Nat.le_of_ble_eq_true rfl) dL_call_61 ⟨Nat.zero_le _, Nat.zero_le _⟩ ?_
  subst hQ; exact j_iret cx hr rfl rfl hA dL_call_64
set_option maxHeartbeats 4000000 in
set_option maxRecDepth 100000 in
theorem c_L_call4 (l : Launch) (D : va_G) (Y : Nat → ClassId) (ad : Nat → Nat → Nat) (F F2 : Nat → Nat → Nat → Int32) (a b v : Nat) (r : Int32) (hM : CtI l yX7_build wsX7_build 5 125 D (tyL Y) (FB Y ad F) [.ref (ad 8 2), .int (nI a)] r (FB Y ad F2)) : CtI l yL_call wsL_call 6 146 D (tyL Y) (FB Y ad F) [.ref (ad 8 2), .int (nI 4), .int (nI a), .int (nI b), .int (nI v)] r (FB Y ad F2) := by
  refine CtI.intro (own := RL) (cc := cL_call) (maxL := 5) rfl (by decide +kernel) rfl (Nat.le_of_ble_eq_true rfl) (fun p e s m args below meth c A Q hA hQ cx hr => ?_)
  refine j_iload_n cx (pc := 0) dL_call_0 1 rfl ?_
  refine j_tableIn cx (pc := 1) dL_call_1 (by decide) (by decide) (off := 64) (by decide) (tgt := 65) (by decide) ?_
  refine j_aload_n cx (pc := 65) dL_call_65 0 rfl ?_
  refine j_iload_n cx (pc := 66) dL_call_66 2 rfl ?_
  refine j_calli cx (pc := 67) 1 hM gL_call_X7_build rfl (by decide +kernel) rfl ⟨Nat.le_of_ble_eq_true rfl, Nat.le_of_ble_eq_true rfl⟩ (List.range 87) (sel_all (FB_len Y ad F)) nd_range87 (Bs' := FB Y ad F2) (put_all (FB_len Y ad F) (FB_len Y ad F2)) A1_FB 85 0 rfl rfl rfl rfl (Nat.le_of_ble_eq_true rfl) dL_call_67 ⟨Nat.zero_le _, Nat.zero_le _⟩ ?_
  subst hQ; exact j_iret cx hr rfl rfl hA dL_call_70
set_option maxHeartbeats 4000000 in
set_option maxRecDepth 100000 in
theorem c_L_call5 (l : Launch) (D : va_G) (Y : Nat → ClassId) (ad : Nat → Nat → Nat) (F F2 : Nat → Nat → Nat → Int32) (a b v : Nat) (r : Int32) (hM : CtI l yX7_finish wsX7_finish 5 125 D (tyL Y) (FB Y ad F) [.ref (ad 8 2)] r (FB Y ad F2)) : CtI l yL_call wsL_call 6 145 D (tyL Y) (FB Y ad F) [.ref (ad 8 2), .int (nI 5), .int (nI a), .int (nI b), .int (nI v)] r (FB Y ad F2) := by
  refine CtI.intro (own := RL) (cc := cL_call) (maxL := 5) rfl (by decide +kernel) rfl (Nat.le_of_ble_eq_true rfl) (fun p e s m args below meth c A Q hA hQ cx hr => ?_)
  refine j_iload_n cx (pc := 0) dL_call_0 1 rfl ?_
  refine j_tableOut cx (pc := 1) dL_call_1 (Or.inr (by decide)) (tgt := 71) (by decide) ?_
  refine j_aload_n cx (pc := 71) dL_call_71 0 rfl ?_
  refine j_calli cx (pc := 72) 0 hM gL_call_X7_finish rfl (by decide +kernel) rfl ⟨Nat.le_of_ble_eq_true rfl, Nat.le_of_ble_eq_true rfl⟩ (List.range 87) (sel_all (FB_len Y ad F)) nd_range87 (Bs' := FB Y ad F2) (put_all (FB_len Y ad F) (FB_len Y ad F2)) A1_FB 85 0 rfl rfl rfl rfl (Nat.le_of_ble_eq_true rfl) dL_call_72 ⟨Nat.zero_le _, Nat.zero_le _⟩ ?_
  subst hQ; exact j_iret cx hr rfl rfl hA dL_call_75
