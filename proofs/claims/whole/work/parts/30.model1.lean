/-! rows of numbers that a loop leaves, by how far it is -/
def shl (f : Nat → Int32) (a i : Nat) : Nat → Int32 := fun j => if a ≤ j ∧ j < a + i then f (j + 1) else f j
def sh3 (f : Nat → Int32) (t : Nat) : Nat → Int32 := fun j => if 169 + t < j ∧ j ≤ 318 then f (j - 3) else f j
def sh4 (f : Nat → Int32) (p i : Nat) : Nat → Int32 := fun j => if p ≤ j ∧ j < i then f (j + 4) else f j
def zer (f : Nat → Int32) (a i : Nat) : Nat → Int32 := fun j => if a ≤ j ∧ j < i then nI 0 else f j
def cpN (f g : Nat → Int32) (i : Nat) : Nat → Int32 := fun j => if j < i then f j else g j
def sh7 (f : Nat → Int32) (i : Nat) : Nat → Int32 := fun j => if j < i then f (j + 719) else f j
def ptN (h : Nat → Int32) (b : Nat) (f : Nat → Int32) (i : Nat) : Nat → Int32 := fun j => if b ≤ j ∧ j < b + i then f (j - b) else h j
def gtN (f h : Nat → Int32) (b i : Nat) : Nat → Int32 := fun j => if j < i then h (b + j) else f j
theorem up_setC (V : Nat → Nat → Int32) (c k : Nat) (g : Nat → Int32) (x : Int32) : up1 (setC V c g) c k x = setC V c (upd g k x) := by
  funext c' j
  by_cases h : c' = c
  · subst h; simp [setC]
  · simp [setC, h]
theorem setC_self (V : Nat → Nat → Int32) (c : Nat) : setC V c (V c) = V := by
  funext c'
  by_cases h : c' = c
  · subst h; simp [setC]
  · simp [setC, h]
theorem shl_0 (V : Nat → Nat → Int32) (c a : Nat) : setC V c (shl (V c) a 0) = V := by
  rw [show shl (V c) a 0 = V c from funext fun j => if_neg (by omega)]; exact setC_self V c
theorem shl_s (V : Nat → Nat → Int32) (c a i : Nat) : up1 (setC V c (shl (V c) a i)) c (a + i) (setC V c (shl (V c) a i) c (a + i + 1)) = setC V c (shl (V c) a (i + 1)) := by
  rw [up_setC, setC_eq]
  congr 1
  funext j
  show (if j = a + i then (if a ≤ a + i + 1 ∧ a + i + 1 < a + i then _ else _) else (if a ≤ j ∧ j < a + i then _ else _)) = (if a ≤ j ∧ j < a + (i + 1) then _ else _)
  rw [if_neg (show ¬ (a ≤ a + i + 1 ∧ a + i + 1 < a + i) by omega)]
  by_cases h : j = a + i
  · subst h; rw [if_pos rfl, if_pos (by omega)]
  · rw [if_neg h]
    by_cases h2 : a ≤ j ∧ j < a + i
    · rw [if_pos h2, if_pos (by omega)]
    · rw [if_neg h2, if_neg (by omega)]
theorem sh3_0 (V : Nat → Nat → Int32) (c : Nat) : setC V c (sh3 (V c) 149) = V := by
  rw [show sh3 (V c) 149 = V c from funext fun j => if_neg (by omega)]; exact setC_self V c
theorem sh3_s (V : Nat → Nat → Int32) (c t : Nat) (h2 : 2 ≤ t) (ht : t < 149) : up1 (setC V c (sh3 (V c) (t + 1))) c (169 + (t + 1)) (setC V c (sh3 (V c) (t + 1)) c (169 + (t + 1) - 3)) = setC V c (sh3 (V c) t) := by
  rw [up_setC, setC_eq]
  congr 1
  funext j
  show (if j = 169 + (t + 1) then (if 169 + (t + 1) < 169 + (t + 1) - 3 ∧ 169 + (t + 1) - 3 ≤ 318 then _ else _) else (if 169 + (t + 1) < j ∧ j ≤ 318 then _ else _)) = (if 169 + t < j ∧ j ≤ 318 then _ else _)
  rw [if_neg (show ¬ (169 + (t + 1) < 169 + (t + 1) - 3 ∧ 169 + (t + 1) - 3 ≤ 318) by omega)]
  by_cases h : j = 169 + (t + 1)
  · subst h; rw [if_pos rfl, if_pos (by omega)]
  · rw [if_neg h]
    by_cases h3 : 169 + (t + 1) < j ∧ j ≤ 318
    · rw [if_pos h3, if_pos (by omega)]
    · rw [if_neg h3, if_neg (by omega)]
theorem sh4_0 (V : Nat → Nat → Int32) (c p : Nat) : setC V c (sh4 (V c) p p) = V := by
  rw [show sh4 (V c) p p = V c from funext fun j => if_neg (by omega)]; exact setC_self V c
theorem sh4_s (V : Nat → Nat → Int32) (c p i : Nat) (h : p ≤ i) : up1 (setC V c (sh4 (V c) p i)) c i (setC V c (sh4 (V c) p i) c (i + 4)) = setC V c (sh4 (V c) p (i + 1)) := by
  rw [up_setC, setC_eq]
  congr 1
  funext j
  show (if j = i then (if p ≤ i + 4 ∧ i + 4 < i then _ else _) else (if p ≤ j ∧ j < i then _ else _)) = (if p ≤ j ∧ j < i + 1 then _ else _)
  rw [if_neg (show ¬ (p ≤ i + 4 ∧ i + 4 < i) by omega)]
  by_cases h2 : j = i
  · subst h2; rw [if_pos rfl, if_pos (by omega)]
  · rw [if_neg h2]
    by_cases h3 : p ≤ j ∧ j < i
    · rw [if_pos h3, if_pos (by omega)]
    · rw [if_neg h3, if_neg (by omega)]
theorem zer_0 (V : Nat → Nat → Int32) (c a : Nat) : setC V c (zer (V c) a a) = V := by
  rw [show zer (V c) a a = V c from funext fun j => if_neg (by omega)]; exact setC_self V c
theorem zer_s (V : Nat → Nat → Int32) (c a i : Nat) (h : a ≤ i) : up1 (setC V c (zer (V c) a i)) c i (nI 0) = setC V c (zer (V c) a (i + 1)) := by
  rw [up_setC]
  congr 1
  funext j
  show (if j = i then _ else (if a ≤ j ∧ j < i then _ else _)) = (if a ≤ j ∧ j < i + 1 then _ else _)
  by_cases h2 : j = i
  · subst h2; rw [if_pos rfl, if_pos (by omega)]
  · rw [if_neg h2]
    by_cases h3 : a ≤ j ∧ j < i
    · rw [if_pos h3, if_pos (by omega)]
    · rw [if_neg h3, if_neg (by omega)]
theorem cpN_0 (V : Nat → Nat → Int32) (c d : Nat) : setC V c (cpN (V d) (V c) 0) = V := by
  rw [show cpN (V d) (V c) 0 = V c from funext fun j => if_neg (by omega)]; exact setC_self V c
theorem cpN_s (V : Nat → Nat → Int32) (c d i : Nat) (h : d ≠ c) : up1 (setC V c (cpN (V d) (V c) i)) c i (setC V c (cpN (V d) (V c) i) d i) = setC V c (cpN (V d) (V c) (i + 1)) := by
  rw [up_setC, setC_ne h]
  congr 1
  funext j
  show (if j = i then _ else (if j < i then _ else _)) = (if j < i + 1 then _ else _)
  by_cases h2 : j = i
  · subst h2; rw [if_pos rfl, if_pos (by omega)]
  · rw [if_neg h2]
    by_cases h3 : j < i
    · rw [if_pos h3, if_pos (by omega)]
    · rw [if_neg h3, if_neg (by omega)]
theorem sh7_0 (V : Nat → Nat → Int32) (c : Nat) : setC V c (sh7 (V c) 0) = V := by
  rw [show sh7 (V c) 0 = V c from funext fun j => if_neg (by omega)]; exact setC_self V c
theorem sh7_s (V : Nat → Nat → Int32) (c i : Nat) : up1 (setC V c (sh7 (V c) i)) c i (setC V c (sh7 (V c) i) c (i + 719)) = setC V c (sh7 (V c) (i + 1)) := by
  rw [up_setC, setC_eq]
  congr 1
  funext j
  show (if j = i then (if i + 719 < i then _ else _) else (if j < i then _ else _)) = (if j < i + 1 then _ else _)
  rw [if_neg (show ¬ (i + 719 < i) by omega)]
  by_cases h2 : j = i
  · subst h2; rw [if_pos rfl, if_pos (by omega)]
  · rw [if_neg h2]
    by_cases h3 : j < i
    · rw [if_pos h3, if_pos (by omega)]
    · rw [if_neg h3, if_neg (by omega)]
theorem ptN_0 (V : Nat → Nat → Int32) (c d b : Nat) : setC V c (ptN (V c) b (V d) 0) = V := by
  rw [show ptN (V c) b (V d) 0 = V c from funext fun j => if_neg (by omega)]; exact setC_self V c
theorem ptN_s (V : Nat → Nat → Int32) (c d b i : Nat) (h : d ≠ c) : up1 (setC V c (ptN (V c) b (V d) i)) c (b + i) (setC V c (ptN (V c) b (V d) i) d i) = setC V c (ptN (V c) b (V d) (i + 1)) := by
  rw [up_setC, setC_ne h]
  congr 1
  funext j
  show (if j = b + i then _ else (if b ≤ j ∧ j < b + i then _ else _)) = (if b ≤ j ∧ j < b + (i + 1) then V d (j - b) else _)
  by_cases h2 : j = b + i
  · subst h2; rw [if_pos rfl, if_pos (by omega), Nat.add_sub_cancel_left]
  · rw [if_neg h2]
    by_cases h3 : b ≤ j ∧ j < b + i
    · rw [if_pos h3, if_pos (by omega)]
    · rw [if_neg h3, if_neg (by omega)]
theorem gtN_0 (V : Nat → Nat → Int32) (c d b : Nat) : setC V c (gtN (V c) (V d) b 0) = V := by
  rw [show gtN (V c) (V d) b 0 = V c from funext fun j => if_neg (by omega)]; exact setC_self V c
theorem gtN_s (V : Nat → Nat → Int32) (c d b i : Nat) (h : d ≠ c) : up1 (setC V c (gtN (V c) (V d) b i)) c i (setC V c (gtN (V c) (V d) b i) d (b + i)) = setC V c (gtN (V c) (V d) b (i + 1)) := by
  rw [up_setC, setC_ne h]
  congr 1
  funext j
  show (if j = i then _ else (if j < i then _ else _)) = (if j < i + 1 then V d (b + j) else _)
  by_cases h2 : j = i
  · subst h2; rw [if_pos rfl, if_pos (by omega)]
  · rw [if_neg h2]
    by_cases h3 : j < i
    · rw [if_pos h3, if_pos (by omega)]
    · rw [if_neg h3, if_neg (by omega)]
theorem vp_mono {x : Int32} {n m : Nat} (h : vp_in x n) (hm : n ≤ m) : vp_in x m := fun q => h (q.elim Or.inl (fun z => Or.inr (Nat.le_trans hm z)))
theorem vp_suc {x : Int32} {n : Nat} (h : vp_in x n) (hn : n < 2 ^ 31 - 1) : vp_in (x + nI 1) (n + 1) := by
  obtain ⟨j, hj, rfl⟩ := vp_in_of h (by omega)
  rw [nI_add]
  exact vp_in_nI (by omega) (by omega)
theorem up1_eq {V : Nat → Nat → Int32} {c i : Nat} {x : Int32} : up1 V c i x c i = x := by show setC V c _ c i = x; rw [setC_eq]; exact if_pos rfl
theorem up1_in {V : Nat → Nat → Int32} {c i j : Nat} {x : Int32} (h : j ≠ i) : up1 V c i x c j = V c j := by show setC V c _ c j = _; rw [setC_eq]; exact if_neg h
theorem cn_up {M : Nat → Nat → Int32} {i n : Nat} {x : Int32} (h : i ≠ 10) (hn : vp_in (M 1 10) n) : vp_in (up1 M 1 i x 1 10) n := by
  have e : up1 M 1 i x 1 10 = M 1 10 := by show upd (M 1) i x 10 = _; exact if_neg (by omega)
  rw [e]; exact hn
theorem cn_0 {M : Nat → Nat → Int32} {i n : Nat} {x : Int32} (hn : vp_in (M 1 10) n) : vp_in (up1 M 0 i x 1 10) n := hn
def C8_within  (v : Int32) (least : Int32) (most : Int32) : Int32 :=
  if v < least then
    (nI 0)
  else
    if most < v then
      (nI 0)
    else
      (nI 1)
set_option maxHeartbeats 4000000 in
set_option maxRecDepth 100000 in
theorem c_X8_within (l : Launch) (D : va_G) (Y : Nat → ClassId)  (v : Int32) (least : Int32) (most : Int32)  : CtI l yX8_within wsX8_within 0 0 D (tyL Y) ([]) [.int v, .int least, .int most] (C8_within  v least most) ([]) := by
  refine CtI.intro (own := RX8) (cc := cX8_within) (maxL := 3) rfl (by decide +kernel) rfl (Nat.le_of_ble_eq_true rfl) (fun p e s m args below meth c A Q hA hQ cx hr => ?_)
  refine j_iload_n cx (pc := 0) dX8_within_0 0 rfl ?_
  refine j_iload_n cx (pc := 1) dX8_within_1 1 rfl ?_
  refine j_icmp_lt cx (pc := 2) (tgt := 14) dX8_within_2 (by decide) (fun c2_1 => ?_) (fun c2_1 => ?_)
  · skip
    refine j_iconst cx (pc := 14) (v := (nI 0)) dX8_within_14 (by decide) ?_
    subst hQ; exact j_zret cx hr rfl (by simp only [C8_within, if_pos c2_1]) rfl hA dX8_within_15
  · skip
    refine j_iload_n cx (pc := 5) dX8_within_5 0 rfl ?_
    refine j_iload_n cx (pc := 6) dX8_within_6 2 rfl ?_
    refine j_icmp_gt cx (pc := 7) (tgt := 14) dX8_within_7 (by decide) (fun c7_2 => ?_) (fun c7_2 => ?_)
    · skip
      refine j_iconst cx (pc := 14) (v := (nI 0)) dX8_within_14 (by decide) ?_
      subst hQ; exact j_zret cx hr rfl (by simp only [C8_within, if_neg c2_1, if_pos c7_2]) rfl hA dX8_within_15
    · skip
      refine j_iconst cx (pc := 10) (v := (nI 1)) dX8_within_10 (by decide) ?_
      refine j_goto cx (pc := 11) (tgt := 15) dX8_within_11 (by decide) ?_
      subst hQ; exact j_zret cx hr rfl (by simp only [C8_within, if_neg c2_1, if_neg c7_2]) rfl hA dX8_within_15
theorem bl_within (a b c : Int32) : C8_within a b c = nI 0 ∨ C8_within a b c = nI 1 := by
  unfold C8_within
  repeat' split
  all_goals first | exact Or.inl rfl | exact Or.inr rfl
def C8_isWire  (wire : Int32) : Int32 :=
  (C8_within wire (nI 0) (nI 2))
set_option maxHeartbeats 4000000 in
set_option maxRecDepth 100000 in
theorem c_X8_isWire (l : Launch) (D : va_G) (Y : Nat → ClassId)  (wire : Int32)  : CtI l yX8_isWire wsX8_isWire 1 22 D (tyL Y) ([]) [.int wire] (C8_isWire  wire) ([]) := by
  refine CtI.intro (own := RX8) (cc := cX8_isWire) (maxL := 1) rfl (by decide +kernel) rfl (Nat.le_of_ble_eq_true rfl) (fun p e s m args below meth c A Q hA hQ cx hr => ?_)
  refine j_iload_n cx (pc := 0) dX8_isWire_0 0 rfl ?_
  refine j_iconst cx (pc := 1) (v := (nI 0)) dX8_isWire_1 (by decide) ?_
  refine j_iconst cx (pc := 2) (v := (nI 2)) dX8_isWire_2 (by decide) ?_
  refine j_calls cx (pc := 3) 3 (c_X8_within l D Y wire (nI 0) (nI 2) ) gX8_isWire_X8_within rfl (by decide +kernel) rfl ⟨Nat.le_of_ble_eq_true rfl, Nat.le_of_ble_eq_true rfl⟩ rfl (Nat.le_of_ble_eq_true rfl) dX8_isWire_3 ⟨Nat.zero_le _, Nat.zero_le _⟩ ?_
  subst hQ; exact j_zret cx hr (nb_of (bl_within _ _ _)) (by rfl) rfl hA dX8_isWire_6
def C8_isSender  (sender : Int32) : Int32 :=
  (C8_within sender (nI 0) (nI 1))
set_option maxHeartbeats 4000000 in
set_option maxRecDepth 100000 in
theorem c_X8_isSender (l : Launch) (D : va_G) (Y : Nat → ClassId)  (sender : Int32)  : CtI l yX8_isSender wsX8_isSender 1 22 D (tyL Y) ([]) [.int sender] (C8_isSender  sender) ([]) := by
  refine CtI.intro (own := RX8) (cc := cX8_isSender) (maxL := 1) rfl (by decide +kernel) rfl (Nat.le_of_ble_eq_true rfl) (fun p e s m args below meth c A Q hA hQ cx hr => ?_)
  refine j_iload_n cx (pc := 0) dX8_isSender_0 0 rfl ?_
  refine j_iconst cx (pc := 1) (v := (nI 0)) dX8_isSender_1 (by decide) ?_
  refine j_iconst cx (pc := 2) (v := (nI 1)) dX8_isSender_2 (by decide) ?_
  refine j_calls cx (pc := 3) 3 (c_X8_within l D Y sender (nI 0) (nI 1) ) gX8_isSender_X8_within rfl (by decide +kernel) rfl ⟨Nat.le_of_ble_eq_true rfl, Nat.le_of_ble_eq_true rfl⟩ rfl (Nat.le_of_ble_eq_true rfl) dX8_isSender_3 ⟨Nat.zero_le _, Nat.zero_le _⟩ ?_
  subst hQ; exact j_zret cx hr (nb_of (bl_within _ _ _)) (by rfl) rfl hA dX8_isSender_6
def C8_isLink (M : Nat → Nat → Int32) (link : Int32) : Int32 :=
  (C8_within link (nI 0) (M 1 3))
set_option maxHeartbeats 4000000 in
set_option maxRecDepth 100000 in
theorem c_X8_isLink (l : Launch) (D : va_G) (Y : Nat → ClassId) (mo : Nat → Nat) (M : Nat → Nat → Int32) (link : Int32)  : CtI l yX8_isLink wsX8_isLink 1 22 D (tyL Y) ([moB Y mo M]) [.ref (mo 0), .int link] (C8_isLink M link) ([moB Y mo M]) := by
  refine CtI.intro (own := RX8) (cc := cX8_isLink) (maxL := 2) rfl (by decide +kernel) rfl (Nat.le_of_ble_eq_true rfl) (fun p e s m args below meth c A Q hA hQ cx hr => ?_)
  have hinX8 : ∀ w ∈ wsX80, w ∈ wsX8_isLink := by decide +kernel
  have f7 : Cond.fieldLink RX8 7 "FourPhasesModel" "state" "[I" ∈ wsX8_isLink := by decide +kernel
  refine j_iload_n cx (pc := 0) dX8_isLink_0 1 rfl ?_
  refine j_iconst cx (pc := 1) (v := (nI 0)) dX8_isLink_1 (by decide) ?_
  refine j_aload_n cx (pc := 2) dX8_isLink_2 0 rfl ?_
  refine j_get cx (pc := 3) 0 0 rfl rfl (C := RX8) (T := TX8) (N := 12) rfl hinX8 0 (by decide) f7 rfl (v := .ref (mo 1)) rfl dX8_isLink_3 ?_
  refine j_iconst cx (pc := 6) (v := (nI 3)) dX8_isLink_6 (by decide) ?_
  refine j_iald cx (pc := 7) 0 1 0 rfl rfl rfl (by decide) (by decide) dX8_isLink_7 ?_
  refine j_calls cx (pc := 8) 3 (c_X8_within l D Y link (nI 0) (M 1 3) ) gX8_isLink_X8_within rfl (by decide +kernel) rfl ⟨Nat.le_of_ble_eq_true rfl, Nat.le_of_ble_eq_true rfl⟩ rfl (Nat.le_of_ble_eq_true rfl) dX8_isLink_8 ⟨Nat.zero_le _, Nat.zero_le _⟩ ?_
  subst hQ; exact j_zret cx hr (nb_of (bl_within _ _ _)) (by rfl) rfl hA dX8_isLink_11
def C8_end (M : Nat → Nat → Int32) (link : Nat) (which : Nat) : Int32 :=
  (M 1 ((34 + (6 * link)) + which))
set_option maxHeartbeats 4000000 in
set_option maxRecDepth 100000 in
theorem c_X8_end (l : Launch) (D : va_G) (Y : Nat → ClassId) (mo : Nat → Nat) (M : Nat → Nat → Int32) (link : Nat) (which : Nat) (hk : link < 7) (hw : which < 6) : CtI l yX8_end wsX8_end 0 0 D (tyL Y) ([moB Y mo M]) [.ref (mo 0), .int (nI link), .int (nI which)] (C8_end M link which) ([moB Y mo M]) := by
  refine CtI.intro (own := RX8) (cc := cX8_end) (maxL := 3) rfl (by decide +kernel) rfl (Nat.le_of_ble_eq_true rfl) (fun p e s m args below meth c A Q hA hQ cx hr => ?_)
  have hinX8 : ∀ w ∈ wsX80, w ∈ wsX8_end := by decide +kernel
  have f7 : Cond.fieldLink RX8 7 "FourPhasesModel" "state" "[I" ∈ wsX8_end := by decide +kernel
  refine j_aload_n cx (pc := 0) dX8_end_0 0 rfl ?_
  refine j_get cx (pc := 1) 0 0 rfl rfl (C := RX8) (T := TX8) (N := 12) rfl hinX8 0 (by decide) f7 rfl (v := .ref (mo 1)) rfl dX8_end_1 ?_
  refine j_bipush cx (pc := 4) (v := (nI 34)) dX8_end_4 (by decide) ?_
  refine j_bipush cx (pc := 6) (v := (nI 6)) dX8_end_6 (by decide) ?_
  refine j_iload_n cx (pc := 8) dX8_end_8 1 rfl ?_
  refine j_imulN cx (pc := 9) dX8_end_9 ?_
  refine j_iaddN cx (pc := 10) dX8_end_10 ?_
  refine j_iload_n cx (pc := 11) dX8_end_11 2 rfl ?_
  refine j_iaddN cx (pc := 12) dX8_end_12 ?_
  refine j_iald cx (pc := 13) 0 1 0 rfl rfl rfl (by omega) (by decide) dX8_end_13 ?_
  subst hQ; exact j_iret cx hr (by rfl) rfl hA dX8_end_14
def C8_setEnd (M : Nat → Nat → Int32) (link : Nat) (which : Nat) (value : Int32) : Nat → Nat → Int32 :=
  let V1 := up1 M 1 ((34 + (6 * link)) + which) value
  V1
set_option maxHeartbeats 4000000 in
set_option maxRecDepth 100000 in
theorem c_X8_setEnd (l : Launch) (D : va_G) (Y : Nat → ClassId) (mo : Nat → Nat) (M : Nat → Nat → Int32) (link : Nat) (which : Nat) (value : Int32) (hk : link < 7) (hw : which < 6) : CtV l yX8_setEnd wsX8_setEnd 0 0 D (tyL Y) ([moB Y mo M]) [.ref (mo 0), .int (nI link), .int (nI which), .int value] ([moB Y mo (C8_setEnd M link which value)]) := by
  refine CtV.intro (own := RX8) (cc := cX8_setEnd) (maxL := 4) rfl (by decide +kernel) rfl (Nat.le_of_ble_eq_true rfl) (fun p e s m args below meth c A Q hA hQ cx hr => ?_)
  have hinX8 : ∀ w ∈ wsX80, w ∈ wsX8_setEnd := by decide +kernel
  have f7 : Cond.fieldLink RX8 7 "FourPhasesModel" "state" "[I" ∈ wsX8_setEnd := by decide +kernel
  refine j_aload_n cx (pc := 0) dX8_setEnd_0 0 rfl ?_
  refine j_get cx (pc := 1) 0 0 rfl rfl (C := RX8) (T := TX8) (N := 12) rfl hinX8 0 (by decide) f7 rfl (v := .ref (mo 1)) rfl dX8_setEnd_1 ?_
  refine j_bipush cx (pc := 4) (v := (nI 34)) dX8_setEnd_4 (by decide) ?_
  refine j_bipush cx (pc := 6) (v := (nI 6)) dX8_setEnd_6 (by decide) ?_
  refine j_iload_n cx (pc := 8) dX8_setEnd_8 1 rfl ?_
  refine j_imulN cx (pc := 9) dX8_setEnd_9 ?_
  refine j_iaddN cx (pc := 10) dX8_setEnd_10 ?_
  refine j_iload_n cx (pc := 11) dX8_setEnd_11 2 rfl ?_
  refine j_iaddN cx (pc := 12) dX8_setEnd_12 ?_
  refine j_iload_n cx (pc := 13) dX8_setEnd_13 3 rfl ?_
  obtain ⟨V1, hV1⟩ : ∃ z, z = up1 M 1 ((34 + (6 * link)) + which) value := ⟨_, rfl⟩
  refine j_iast cx (pc := 14) 0 1 0 rfl rfl rfl (by omega) (by decide) (Bs' := [moB Y mo V1]) (by rw [hV1]; rfl) dX8_setEnd_14 ?_
  subst hQ; exact j_vret cx hr (by subst hV1; rfl) hA dX8_setEnd_15
theorem cn_setEnd {M : Nat → Nat → Int32} {k w n : Nat} {x : Int32} (hn : vp_in (M 1 10) n) : vp_in (C8_setEnd M k w x 1 10) n := cn_up (by omega) hn
def C8_make (M : Nat → Nat → Int32) (link : Nat) (wire : Nat) (value : Int32) (longer : Int32) : Nat → Nat → Int32 :=
  let V1 := up1 M 1 ((319 + (4 * (tN (M 1 10)))) + 0) (((M 1 4) + (M 1 ((13 + (3 * link)) + wire))) + longer)
  let V2 := up1 V1 1 ((319 + (4 * (tN (M 1 10)))) + 1) (nI link)
  let V3 := up1 V2 1 ((319 + (4 * (tN (M 1 10)))) + 2) (nI wire)
  let V4 := up1 V3 1 ((319 + (4 * (tN (M 1 10)))) + 3) value
  let V5 := up1 V4 1 10 ((V4 1 10) + (nI 1))
  V5
set_option maxHeartbeats 4000000 in
set_option maxRecDepth 100000 in
theorem c_X8_make (l : Launch) (D : va_G) (Y : Nat → ClassId) (mo : Nat → Nat) (M : Nat → Nat → Int32) (link : Nat) (wire : Nat) (value : Int32) (longer : Int32) (hk : link < 7) (hw : wire < 3) (hn : vp_in (M 1 10) 100) : CtV l yX8_make wsX8_make 0 0 D (tyL Y) ([moB Y mo M]) [.ref (mo 0), .int (nI link), .int (nI wire), .int value, .int longer] ([moB Y mo (C8_make M link wire value longer)]) := by
  refine CtV.intro (own := RX8) (cc := cX8_make) (maxL := 6) rfl (by decide +kernel) rfl (Nat.le_of_ble_eq_true rfl) (fun p e s m args below meth c A Q hA hQ cx hr => ?_)
  have hinX8 : ∀ w ∈ wsX80, w ∈ wsX8_make := by decide +kernel
  have f7 : Cond.fieldLink RX8 7 "FourPhasesModel" "state" "[I" ∈ wsX8_make := by decide +kernel
  have hl100 : tN (M 1 10) < 100 := inL hn
  refine j_sipush cx (pc := 0) (v := (nI 319)) dX8_make_0 (by decide) ?_
  refine j_iconst cx (pc := 3) (v := (nI 4)) dX8_make_3 (by decide) ?_
  refine j_aload_n cx (pc := 4) dX8_make_4 0 rfl ?_
  refine j_get cx (pc := 5) 0 0 rfl rfl (C := RX8) (T := TX8) (N := 12) rfl hinX8 0 (by decide) f7 rfl (v := .ref (mo 1)) rfl dX8_make_5 ?_
  refine j_bipush cx (pc := 8) (v := (nI 10)) dX8_make_8 (by decide) ?_
  refine j_iald cx (pc := 10) 0 1 0 rfl rfl rfl (by decide) (by decide) dX8_make_10 ?_
  refine j_top (show (M 1 10) = (nI (tN (M 1 10))) from inN hn) ?_
  refine j_imulN cx (pc := 11) dX8_make_11 ?_
  refine j_iaddN cx (pc := 12) dX8_make_12 ?_
  refine j_istore cx (pc := 13) (lv' := [(5, .int (nI (319 + (4 * (tN (M 1 10)))))), (0, .ref (mo 0)), (1, .int (nI link)), (2, .int (nI wire)), (3, .int value), (4, .int longer)]) dX8_make_13 (by decide) rfl ?_
  refine j_aload_n cx (pc := 15) dX8_make_15 1 rfl ?_
  refine j_get cx (pc := 16) 0 0 rfl rfl (C := RX8) (T := TX8) (N := 12) rfl hinX8 0 (by decide) f7 rfl (v := .ref (mo 1)) rfl dX8_make_16 ?_
  refine j_iload cx (pc := 19) dX8_make_19 0 rfl ?_
  refine j_iconst cx (pc := 21) (v := (nI 0)) dX8_make_21 (by decide) ?_
  refine j_iaddN cx (pc := 22) dX8_make_22 ?_
  refine j_aload_n cx (pc := 23) dX8_make_23 1 rfl ?_
  refine j_get cx (pc := 24) 0 0 rfl rfl (C := RX8) (T := TX8) (N := 12) rfl hinX8 0 (by decide) f7 rfl (v := .ref (mo 1)) rfl dX8_make_24 ?_
  refine j_iconst cx (pc := 27) (v := (nI 4)) dX8_make_27 (by decide) ?_
  refine j_iald cx (pc := 28) 0 1 0 rfl rfl rfl (by decide) (by decide) dX8_make_28 ?_
  refine j_aload_n cx (pc := 29) dX8_make_29 1 rfl ?_
  refine j_get cx (pc := 30) 0 0 rfl rfl (C := RX8) (T := TX8) (N := 12) rfl hinX8 0 (by decide) f7 rfl (v := .ref (mo 1)) rfl dX8_make_30 ?_
  refine j_bipush cx (pc := 33) (v := (nI 13)) dX8_make_33 (by decide) ?_
  refine j_iconst cx (pc := 35) (v := (nI 3)) dX8_make_35 (by decide) ?_
  refine j_iload_n cx (pc := 36) dX8_make_36 2 rfl ?_
  refine j_imulN cx (pc := 37) dX8_make_37 ?_
  refine j_iaddN cx (pc := 38) dX8_make_38 ?_
  refine j_iload_n cx (pc := 39) dX8_make_39 3 rfl ?_
  refine j_iaddN cx (pc := 40) dX8_make_40 ?_
  refine j_iald cx (pc := 41) 0 1 0 rfl rfl rfl (by omega) (by decide) dX8_make_41 ?_
  refine j_iadd cx (pc := 42) dX8_make_42 ?_
  refine j_iload cx (pc := 43) dX8_make_43 5 rfl ?_
  refine j_iadd cx (pc := 45) dX8_make_45 ?_
  obtain ⟨V1, hV1⟩ : ∃ z, z = up1 M 1 ((319 + (4 * (tN (M 1 10)))) + 0) (((M 1 4) + (M 1 ((13 + (3 * link)) + wire))) + longer) := ⟨_, rfl⟩
  have cnV1 : vp_in (V1 1 10) 100 := by rw [hV1]; exact cn_up (by omega) hn
  refine j_iast cx (pc := 46) 0 1 0 rfl rfl rfl (by omega) (by decide) (Bs' := [moB Y mo V1]) (by rw [hV1]; rfl) dX8_make_46 ?_
  refine j_aload_n cx (pc := 47) dX8_make_47 1 rfl ?_
  refine j_get cx (pc := 48) 0 0 rfl rfl (C := RX8) (T := TX8) (N := 12) rfl hinX8 0 (by decide) f7 rfl (v := .ref (mo 1)) rfl dX8_make_48 ?_
  refine j_iload cx (pc := 51) dX8_make_51 0 rfl ?_
  refine j_iconst cx (pc := 53) (v := (nI 1)) dX8_make_53 (by decide) ?_
  refine j_iaddN cx (pc := 54) dX8_make_54 ?_
  refine j_iload_n cx (pc := 55) dX8_make_55 2 rfl ?_
  obtain ⟨V2, hV2⟩ : ∃ z, z = up1 V1 1 ((319 + (4 * (tN (M 1 10)))) + 1) (nI link) := ⟨_, rfl⟩
  have cnV2 : vp_in (V2 1 10) 100 := by rw [hV2]; exact cn_up (by omega) cnV1
  refine j_iast cx (pc := 56) 0 1 0 rfl rfl rfl (by omega) (by decide) (Bs' := [moB Y mo V2]) (by rw [hV2]; rfl) dX8_make_56 ?_
  refine j_aload_n cx (pc := 57) dX8_make_57 1 rfl ?_
  refine j_get cx (pc := 58) 0 0 rfl rfl (C := RX8) (T := TX8) (N := 12) rfl hinX8 0 (by decide) f7 rfl (v := .ref (mo 1)) rfl dX8_make_58 ?_
  refine j_iload cx (pc := 61) dX8_make_61 0 rfl ?_
  refine j_iconst cx (pc := 63) (v := (nI 2)) dX8_make_63 (by decide) ?_
  refine j_iaddN cx (pc := 64) dX8_make_64 ?_
  refine j_iload_n cx (pc := 65) dX8_make_65 3 rfl ?_
  obtain ⟨V3, hV3⟩ : ∃ z, z = up1 V2 1 ((319 + (4 * (tN (M 1 10)))) + 2) (nI wire) := ⟨_, rfl⟩
  have cnV3 : vp_in (V3 1 10) 100 := by rw [hV3]; exact cn_up (by omega) cnV2
  refine j_iast cx (pc := 66) 0 1 0 rfl rfl rfl (by omega) (by decide) (Bs' := [moB Y mo V3]) (by rw [hV3]; rfl) dX8_make_66 ?_
  refine j_aload_n cx (pc := 67) dX8_make_67 1 rfl ?_
  refine j_get cx (pc := 68) 0 0 rfl rfl (C := RX8) (T := TX8) (N := 12) rfl hinX8 0 (by decide) f7 rfl (v := .ref (mo 1)) rfl dX8_make_68 ?_
  refine j_iload cx (pc := 71) dX8_make_71 0 rfl ?_
  refine j_iconst cx (pc := 73) (v := (nI 3)) dX8_make_73 (by decide) ?_
  refine j_iaddN cx (pc := 74) dX8_make_74 ?_
  refine j_iload_n cx (pc := 75) dX8_make_75 4 rfl ?_
  obtain ⟨V4, hV4⟩ : ∃ z, z = up1 V3 1 ((319 + (4 * (tN (M 1 10)))) + 3) value := ⟨_, rfl⟩
  have cnV4 : vp_in (V4 1 10) 100 := by rw [hV4]; exact cn_up (by omega) cnV3
  refine j_iast cx (pc := 76) 0 1 0 rfl rfl rfl (by omega) (by decide) (Bs' := [moB Y mo V4]) (by rw [hV4]; rfl) dX8_make_76 ?_
  refine j_aload_n cx (pc := 77) dX8_make_77 1 rfl ?_
  refine j_get cx (pc := 78) 0 0 rfl rfl (C := RX8) (T := TX8) (N := 12) rfl hinX8 0 (by decide) f7 rfl (v := .ref (mo 1)) rfl dX8_make_78 ?_
  refine j_bipush cx (pc := 81) (v := (nI 10)) dX8_make_81 (by decide) ?_
  refine j_dup2 cx (pc := 83) dX8_make_83 rfl rfl ?_
  refine j_iald cx (pc := 84) 0 1 0 rfl rfl rfl (by decide) (by decide) dX8_make_84 ?_
  refine j_iconst cx (pc := 85) (v := (nI 1)) dX8_make_85 (by decide) ?_
  refine j_iadd cx (pc := 86) dX8_make_86 ?_
  obtain ⟨V5, hV5⟩ : ∃ z, z = up1 V4 1 10 ((V4 1 10) + (nI 1)) := ⟨_, rfl⟩
  refine j_iast cx (pc := 87) 0 1 0 rfl rfl rfl (by decide) (by decide) (Bs' := [moB Y mo V5]) (by rw [hV5]; rfl) dX8_make_87 ?_
  subst hQ; exact j_vret cx hr (by subst hV5; subst hV4; subst hV3; subst hV2; subst hV1; rfl) hA dX8_make_88
theorem cn_make {M : Nat → Nat → Int32} {k w n : Nat} {x y : Int32} (hn : vp_in (M 1 10) n) (h : n < 2 ^ 31 - 1 := by decide) : vp_in (C8_make M k w x y 1 10) (n + 1) := by
  have e : C8_make M k w x y 1 10 = M 1 10 + nI 1 := by
    unfold C8_make
    try dsimp only
    rw [up1_eq, up1_in (by omega), up1_in (by omega), up1_in (by omega), up1_in (by omega)]
  rw [e]; exact vp_suc hn h
def C8_offer (M : Nat → Nat → Int32) (link : Nat) (word : Int32) : Nat → Nat → Int32 :=
  let V1 := (C8_setEnd M link 4 word)
  let V2 := (C8_make V1 link 2 word (nI 0))
  let V3 := (C8_setEnd V2 link 0 (nI 1))
  let V4 := (C8_make V3 link 0 (nI 1) (V3 1 0))
  let V5 := up1 V4 1 (76 + link) (nI 0)
  let V6 := up1 V5 1 (90 + link) ((V5 1 (90 + link)) + (nI 1))
  V6
set_option maxHeartbeats 4000000 in
set_option maxRecDepth 100000 in
theorem c_X8_offer (l : Launch) (D : va_G) (Y : Nat → ClassId) (mo : Nat → Nat) (M : Nat → Nat → Int32) (link : Nat) (word : Int32) (hk : link < 7) (hn : vp_in (M 1 10) 99) : CtV l yX8_offer wsX8_offer 1 25 D (tyL Y) ([moB Y mo M]) [.ref (mo 0), .int (nI link), .int word] ([moB Y mo (C8_offer M link word)]) := by
  refine CtV.intro (own := RX8) (cc := cX8_offer) (maxL := 3) rfl (by decide +kernel) rfl (Nat.le_of_ble_eq_true rfl) (fun p e s m args below meth c A Q hA hQ cx hr => ?_)
  have hinX8 : ∀ w ∈ wsX80, w ∈ wsX8_offer := by decide +kernel
  have f7 : Cond.fieldLink RX8 7 "FourPhasesModel" "state" "[I" ∈ wsX8_offer := by decide +kernel
  refine j_aload_n cx (pc := 0) dX8_offer_0 0 rfl ?_
  refine j_iload_n cx (pc := 1) dX8_offer_1 1 rfl ?_
  refine j_iconst cx (pc := 2) (v := (nI 4)) dX8_offer_2 (by decide) ?_
  refine j_iload_n cx (pc := 3) dX8_offer_3 2 rfl ?_
  obtain ⟨V1, hV1⟩ : ∃ z, z = (C8_setEnd M link 4 word) := ⟨_, rfl⟩
  have cnV1 : vp_in (V1 1 10) 99 := by rw [hV1]; exact cn_setEnd hn
  refine j_callv cx (pc := 4) 3 (c_X8_setEnd l D Y mo M link 4 word (by omega) (by omega)) gX8_offer_X8_setEnd rfl (by decide +kernel) rfl ⟨Nat.le_of_ble_eq_true rfl, Nat.le_of_ble_eq_true rfl⟩ [0] rfl (by decide) (Bs' := [moB Y mo V1]) (by rw [hV1]; exact P1_mo M (C8_setEnd M link 4 word)) A1_mo 0 0 rfl rfl rfl rfl (Nat.le_of_ble_eq_true rfl) dX8_offer_4 ⟨Nat.zero_le _, Nat.zero_le _⟩ ?_
  refine j_aload_n cx (pc := 7) dX8_offer_7 0 rfl ?_
  refine j_iload_n cx (pc := 8) dX8_offer_8 1 rfl ?_
  refine j_iconst cx (pc := 9) (v := (nI 2)) dX8_offer_9 (by decide) ?_
  refine j_iload_n cx (pc := 10) dX8_offer_10 2 rfl ?_
  refine j_iconst cx (pc := 11) (v := (nI 0)) dX8_offer_11 (by decide) ?_
  obtain ⟨V2, hV2⟩ : ∃ z, z = (C8_make V1 link 2 word (nI 0)) := ⟨_, rfl⟩
  have cnV2 : vp_in (V2 1 10) 100 := by rw [hV2]; exact cn_make cnV1
  refine j_callv cx (pc := 12) 4 (c_X8_make l D Y mo V1 link 2 word (nI 0) (by omega) (by omega) (vp_mono cnV1 (by decide))) gX8_offer_X8_make rfl (by decide +kernel) rfl ⟨Nat.le_of_ble_eq_true rfl, Nat.le_of_ble_eq_true rfl⟩ [0] rfl (by decide) (Bs' := [moB Y mo V2]) (by rw [hV2]; exact P1_mo V1 (C8_make V1 link 2 word (nI 0))) A1_mo 0 0 rfl rfl rfl rfl (Nat.le_of_ble_eq_true rfl) dX8_offer_12 ⟨Nat.zero_le _, Nat.zero_le _⟩ ?_
  refine j_aload_n cx (pc := 15) dX8_offer_15 0 rfl ?_
  refine j_iload_n cx (pc := 16) dX8_offer_16 1 rfl ?_
  refine j_iconst cx (pc := 17) (v := (nI 0)) dX8_offer_17 (by decide) ?_
  refine j_iconst cx (pc := 18) (v := (nI 1)) dX8_offer_18 (by decide) ?_
  obtain ⟨V3, hV3⟩ : ∃ z, z = (C8_setEnd V2 link 0 (nI 1)) := ⟨_, rfl⟩
  have cnV3 : vp_in (V3 1 10) 100 := by rw [hV3]; exact cn_setEnd cnV2
  refine j_callv cx (pc := 19) 3 (c_X8_setEnd l D Y mo V2 link 0 (nI 1) (by omega) (by omega)) gX8_offer_X8_setEnd rfl (by decide +kernel) rfl ⟨Nat.le_of_ble_eq_true rfl, Nat.le_of_ble_eq_true rfl⟩ [0] rfl (by decide) (Bs' := [moB Y mo V3]) (by rw [hV3]; exact P1_mo V2 (C8_setEnd V2 link 0 (nI 1))) A1_mo 0 0 rfl rfl rfl rfl (Nat.le_of_ble_eq_true rfl) dX8_offer_19 ⟨Nat.zero_le _, Nat.zero_le _⟩ ?_
  refine j_aload_n cx (pc := 22) dX8_offer_22 0 rfl ?_
  refine j_iload_n cx (pc := 23) dX8_offer_23 1 rfl ?_
  refine j_iconst cx (pc := 24) (v := (nI 0)) dX8_offer_24 (by decide) ?_
  refine j_iconst cx (pc := 25) (v := (nI 1)) dX8_offer_25 (by decide) ?_
  refine j_aload_n cx (pc := 26) dX8_offer_26 0 rfl ?_
  refine j_get cx (pc := 27) 0 0 rfl rfl (C := RX8) (T := TX8) (N := 12) rfl hinX8 0 (by decide) f7 rfl (v := .ref (mo 1)) rfl dX8_offer_27 ?_
  refine j_iconst cx (pc := 30) (v := (nI 0)) dX8_offer_30 (by decide) ?_
  refine j_iald cx (pc := 31) 0 1 0 rfl rfl rfl (by decide) (by decide) dX8_offer_31 ?_
  obtain ⟨V4, hV4⟩ : ∃ z, z = (C8_make V3 link 0 (nI 1) (V3 1 0)) := ⟨_, rfl⟩
  have cnV4 : vp_in (V4 1 10) 101 := by rw [hV4]; exact cn_make cnV3
  refine j_callv cx (pc := 32) 4 (c_X8_make l D Y mo V3 link 0 (nI 1) (V3 1 0) (by omega) (by omega) (vp_mono cnV3 (by decide))) gX8_offer_X8_make rfl (by decide +kernel) rfl ⟨Nat.le_of_ble_eq_true rfl, Nat.le_of_ble_eq_true rfl⟩ [0] rfl (by decide) (Bs' := [moB Y mo V4]) (by rw [hV4]; exact P1_mo V3 (C8_make V3 link 0 (nI 1) (V3 1 0))) A1_mo 0 0 rfl rfl rfl rfl (Nat.le_of_ble_eq_true rfl) dX8_offer_32 ⟨Nat.zero_le _, Nat.zero_le _⟩ ?_
  refine j_aload_n cx (pc := 35) dX8_offer_35 0 rfl ?_
  refine j_get cx (pc := 36) 0 0 rfl rfl (C := RX8) (T := TX8) (N := 12) rfl hinX8 0 (by decide) f7 rfl (v := .ref (mo 1)) rfl dX8_offer_36 ?_
  refine j_bipush cx (pc := 39) (v := (nI 76)) dX8_offer_39 (by decide) ?_
  refine j_iload_n cx (pc := 41) dX8_offer_41 1 rfl ?_
  refine j_iaddN cx (pc := 42) dX8_offer_42 ?_
  refine j_iconst cx (pc := 43) (v := (nI 0)) dX8_offer_43 (by decide) ?_
  obtain ⟨V5, hV5⟩ : ∃ z, z = up1 V4 1 (76 + link) (nI 0) := ⟨_, rfl⟩
  have cnV5 : vp_in (V5 1 10) 101 := by rw [hV5]; exact cn_up (by omega) cnV4
  refine j_iast cx (pc := 44) 0 1 0 rfl rfl rfl (by omega) (by decide) (Bs' := [moB Y mo V5]) (by rw [hV5]; rfl) dX8_offer_44 ?_
  refine j_aload_n cx (pc := 45) dX8_offer_45 0 rfl ?_
  refine j_get cx (pc := 46) 0 0 rfl rfl (C := RX8) (T := TX8) (N := 12) rfl hinX8 0 (by decide) f7 rfl (v := .ref (mo 1)) rfl dX8_offer_46 ?_
  refine j_bipush cx (pc := 49) (v := (nI 90)) dX8_offer_49 (by decide) ?_
  refine j_iload_n cx (pc := 51) dX8_offer_51 1 rfl ?_
  refine j_iaddN cx (pc := 52) dX8_offer_52 ?_
  refine j_dup2 cx (pc := 53) dX8_offer_53 rfl rfl ?_
  refine j_iald cx (pc := 54) 0 1 0 rfl rfl rfl (by omega) (by decide) dX8_offer_54 ?_
  refine j_iconst cx (pc := 55) (v := (nI 1)) dX8_offer_55 (by decide) ?_
  refine j_iadd cx (pc := 56) dX8_offer_56 ?_
  obtain ⟨V6, hV6⟩ : ∃ z, z = up1 V5 1 (90 + link) ((V5 1 (90 + link)) + (nI 1)) := ⟨_, rfl⟩
  have cnV6 : vp_in (V6 1 10) 101 := by rw [hV6]; exact cn_up (by omega) cnV5
  refine j_iast cx (pc := 57) 0 1 0 rfl rfl rfl (by omega) (by decide) (Bs' := [moB Y mo V6]) (by rw [hV6]; rfl) dX8_offer_57 ?_
  subst hQ; exact j_vret cx hr (by subst hV6; subst hV5; subst hV4; subst hV3; subst hV2; subst hV1; rfl) hA dX8_offer_58
theorem cn_offer {M : Nat → Nat → Int32} {k n : Nat} {x : Int32} (hn : vp_in (M 1 10) n) (h : n < 1000 := by decide) : vp_in (C8_offer M k x 1 10) (n + 2) := by
  unfold C8_offer
  exact cn_up (by omega) (cn_up (by omega) (cn_make (cn_setEnd (cn_make (cn_setEnd hn) (by omega))) (by omega)))
def C8_answer (M : Nat → Nat → Int32) (link : Nat) (value : Int32) (longer : Int32) : Nat → Nat → Int32 :=
  let V1 := (C8_setEnd M link 2 value)
  let V2 := (C8_make V1 link 1 value longer)
  V2
set_option maxHeartbeats 4000000 in
set_option maxRecDepth 100000 in
theorem c_X8_answer (l : Launch) (D : va_G) (Y : Nat → ClassId) (mo : Nat → Nat) (M : Nat → Nat → Int32) (link : Nat) (value : Int32) (longer : Int32) (hk : link < 7) (hn : vp_in (M 1 10) 100) : CtV l yX8_answer wsX8_answer 1 25 D (tyL Y) ([moB Y mo M]) [.ref (mo 0), .int (nI link), .int value, .int longer] ([moB Y mo (C8_answer M link value longer)]) := by
  refine CtV.intro (own := RX8) (cc := cX8_answer) (maxL := 4) rfl (by decide +kernel) rfl (Nat.le_of_ble_eq_true rfl) (fun p e s m args below meth c A Q hA hQ cx hr => ?_)
  refine j_aload_n cx (pc := 0) dX8_answer_0 0 rfl ?_
  refine j_iload_n cx (pc := 1) dX8_answer_1 1 rfl ?_
  refine j_iconst cx (pc := 2) (v := (nI 2)) dX8_answer_2 (by decide) ?_
  refine j_iload_n cx (pc := 3) dX8_answer_3 2 rfl ?_
  obtain ⟨V1, hV1⟩ : ∃ z, z = (C8_setEnd M link 2 value) := ⟨_, rfl⟩
  have cnV1 : vp_in (V1 1 10) 100 := by rw [hV1]; exact cn_setEnd hn
  refine j_callv cx (pc := 4) 3 (c_X8_setEnd l D Y mo M link 2 value (by omega) (by omega)) gX8_answer_X8_setEnd rfl (by decide +kernel) rfl ⟨Nat.le_of_ble_eq_true rfl, Nat.le_of_ble_eq_true rfl⟩ [0] rfl (by decide) (Bs' := [moB Y mo V1]) (by rw [hV1]; exact P1_mo M (C8_setEnd M link 2 value)) A1_mo 0 0 rfl rfl rfl rfl (Nat.le_of_ble_eq_true rfl) dX8_answer_4 ⟨Nat.zero_le _, Nat.zero_le _⟩ ?_
  refine j_aload_n cx (pc := 7) dX8_answer_7 0 rfl ?_
  refine j_iload_n cx (pc := 8) dX8_answer_8 1 rfl ?_
  refine j_iconst cx (pc := 9) (v := (nI 1)) dX8_answer_9 (by decide) ?_
  refine j_iload_n cx (pc := 10) dX8_answer_10 2 rfl ?_
  refine j_iload_n cx (pc := 11) dX8_answer_11 3 rfl ?_
  obtain ⟨V2, hV2⟩ : ∃ z, z = (C8_make V1 link 1 value longer) := ⟨_, rfl⟩
  have cnV2 : vp_in (V2 1 10) 101 := by rw [hV2]; exact cn_make cnV1
  refine j_callv cx (pc := 12) 4 (c_X8_make l D Y mo V1 link 1 value longer (by omega) (by omega) (vp_mono cnV1 (by decide))) gX8_answer_X8_make rfl (by decide +kernel) rfl ⟨Nat.le_of_ble_eq_true rfl, Nat.le_of_ble_eq_true rfl⟩ [0] rfl (by decide) (Bs' := [moB Y mo V2]) (by rw [hV2]; exact P1_mo V1 (C8_make V1 link 1 value longer)) A1_mo 0 0 rfl rfl rfl rfl (Nat.le_of_ble_eq_true rfl) dX8_answer_12 ⟨Nat.zero_le _, Nat.zero_le _⟩ ?_
  subst hQ; exact j_vret cx hr (by subst hV2; subst hV1; rfl) hA dX8_answer_15
theorem cn_answer {M : Nat → Nat → Int32} {k n : Nat} {x y : Int32} (hn : vp_in (M 1 10) n) (h : n < 1000 := by decide) : vp_in (C8_answer M k x y 1 10) (n + 1) := cn_make (cn_setEnd hn) (by omega)
def C8_take (M : Nat → Nat → Int32) (stage : Nat) : Nat → Nat → Int32 :=
  let V1 := up1 M 1 (97 + stage) (nI 1)
  let V2 := up1 V1 1 (103 + stage) (C8_end V1 stage 5)
  let V3 := (C8_answer V2 stage (nI 1) (nI 0))
  if (V3 1 ((76 + stage) + 1)) = (nI 1) then
    let V4 := (C8_offer V3 (stage + 1) (V3 1 (103 + stage)))
    V4
  else
    V3
set_option maxHeartbeats 4000000 in
set_option maxRecDepth 100000 in
theorem c_X8_take (l : Launch) (D : va_G) (Y : Nat → ClassId) (mo : Nat → Nat) (M : Nat → Nat → Int32) (stage : Nat) (hs : stage < 6) (hn : vp_in (M 1 10) 98) : CtV l yX8_take wsX8_take 2 48 D (tyL Y) ([moB Y mo M]) [.ref (mo 0), .int (nI stage)] ([moB Y mo (C8_take M stage)]) := by
  refine CtV.intro (own := RX8) (cc := cX8_take) (maxL := 2) rfl (by decide +kernel) rfl (Nat.le_of_ble_eq_true rfl) (fun p e s m args below meth c A Q hA hQ cx hr => ?_)
  have hinX8 : ∀ w ∈ wsX80, w ∈ wsX8_take := by decide +kernel
  have f7 : Cond.fieldLink RX8 7 "FourPhasesModel" "state" "[I" ∈ wsX8_take := by decide +kernel
  refine j_aload_n cx (pc := 0) dX8_take_0 0 rfl ?_
  refine j_get cx (pc := 1) 0 0 rfl rfl (C := RX8) (T := TX8) (N := 12) rfl hinX8 0 (by decide) f7 rfl (v := .ref (mo 1)) rfl dX8_take_1 ?_
  refine j_bipush cx (pc := 4) (v := (nI 97)) dX8_take_4 (by decide) ?_
  refine j_iload_n cx (pc := 6) dX8_take_6 1 rfl ?_
  refine j_iaddN cx (pc := 7) dX8_take_7 ?_
  refine j_iconst cx (pc := 8) (v := (nI 1)) dX8_take_8 (by decide) ?_
  obtain ⟨V1, hV1⟩ : ∃ z, z = up1 M 1 (97 + stage) (nI 1) := ⟨_, rfl⟩
  have cnV1 : vp_in (V1 1 10) 98 := by rw [hV1]; exact cn_up (by omega) hn
  refine j_iast cx (pc := 9) 0 1 0 rfl rfl rfl (by omega) (by decide) (Bs' := [moB Y mo V1]) (by rw [hV1]; rfl) dX8_take_9 ?_
  refine j_aload_n cx (pc := 10) dX8_take_10 0 rfl ?_
  refine j_get cx (pc := 11) 0 0 rfl rfl (C := RX8) (T := TX8) (N := 12) rfl hinX8 0 (by decide) f7 rfl (v := .ref (mo 1)) rfl dX8_take_11 ?_
  refine j_bipush cx (pc := 14) (v := (nI 103)) dX8_take_14 (by decide) ?_
  refine j_iload_n cx (pc := 16) dX8_take_16 1 rfl ?_
  refine j_iaddN cx (pc := 17) dX8_take_17 ?_
  refine j_aload_n cx (pc := 18) dX8_take_18 0 rfl ?_
  refine j_iload_n cx (pc := 19) dX8_take_19 1 rfl ?_
  refine j_iconst cx (pc := 20) (v := (nI 5)) dX8_take_20 (by decide) ?_
  refine j_calli cx (pc := 21) 2 (c_X8_end l D Y mo V1 stage 5 (by omega) (by omega)) gX8_take_X8_end rfl (by decide +kernel) rfl ⟨Nat.le_of_ble_eq_true rfl, Nat.le_of_ble_eq_true rfl⟩ [0] rfl (by decide) (Bs' := [moB Y mo V1]) rfl rfl 0 0 rfl rfl rfl rfl (Nat.le_of_ble_eq_true rfl) dX8_take_21 ⟨Nat.zero_le _, Nat.zero_le _⟩ ?_
  obtain ⟨V2, hV2⟩ : ∃ z, z = up1 V1 1 (103 + stage) (C8_end V1 stage 5) := ⟨_, rfl⟩
  have cnV2 : vp_in (V2 1 10) 98 := by rw [hV2]; exact cn_up (by omega) cnV1
  refine j_iast cx (pc := 24) 0 1 0 rfl rfl rfl (by omega) (by decide) (Bs' := [moB Y mo V2]) (by rw [hV2]; rfl) dX8_take_24 ?_
  refine j_aload_n cx (pc := 25) dX8_take_25 0 rfl ?_
  refine j_iload_n cx (pc := 26) dX8_take_26 1 rfl ?_
  refine j_iconst cx (pc := 27) (v := (nI 1)) dX8_take_27 (by decide) ?_
  refine j_iconst cx (pc := 28) (v := (nI 0)) dX8_take_28 (by decide) ?_
  obtain ⟨V3, hV3⟩ : ∃ z, z = (C8_answer V2 stage (nI 1) (nI 0)) := ⟨_, rfl⟩
  have cnV3 : vp_in (V3 1 10) 99 := by rw [hV3]; exact cn_answer cnV2
  refine j_callv cx (pc := 29) 3 (c_X8_answer l D Y mo V2 stage (nI 1) (nI 0) (by omega) (vp_mono cnV2 (by decide))) gX8_take_X8_answer rfl (by decide +kernel) rfl ⟨Nat.le_of_ble_eq_true rfl, Nat.le_of_ble_eq_true rfl⟩ [0] rfl (by decide) (Bs' := [moB Y mo V3]) (by rw [hV3]; exact P1_mo V2 (C8_answer V2 stage (nI 1) (nI 0))) A1_mo 0 0 rfl rfl rfl rfl (Nat.le_of_ble_eq_true rfl) dX8_take_29 ⟨Nat.zero_le _, Nat.zero_le _⟩ ?_
  refine j_aload_n cx (pc := 32) dX8_take_32 0 rfl ?_
  refine j_get cx (pc := 33) 0 0 rfl rfl (C := RX8) (T := TX8) (N := 12) rfl hinX8 0 (by decide) f7 rfl (v := .ref (mo 1)) rfl dX8_take_33 ?_
  refine j_bipush cx (pc := 36) (v := (nI 76)) dX8_take_36 (by decide) ?_
  refine j_iload_n cx (pc := 38) dX8_take_38 1 rfl ?_
  refine j_iaddN cx (pc := 39) dX8_take_39 ?_
  refine j_iconst cx (pc := 40) (v := (nI 1)) dX8_take_40 (by decide) ?_
  refine j_iaddN cx (pc := 41) dX8_take_41 ?_
  refine j_iald cx (pc := 42) 0 1 0 rfl rfl rfl (by omega) (by decide) dX8_take_42 ?_
  refine j_iconst cx (pc := 43) (v := (nI 1)) dX8_take_43 (by decide) ?_
  refine j_icmp_ne cx (pc := 44) (tgt := 63) dX8_take_44 (by decide) (fun c44_1 => ?_) (fun c44_1 => ?_)
  · skip
    subst hQ; exact j_vret cx hr (by subst hV3; subst hV2; subst hV1; simp only [C8_take, if_neg c44_1]) hA dX8_take_63
  · skip
    refine j_aload_n cx (pc := 47) dX8_take_47 0 rfl ?_
    refine j_iload_n cx (pc := 48) dX8_take_48 1 rfl ?_
    refine j_iconst cx (pc := 49) (v := (nI 1)) dX8_take_49 (by decide) ?_
    refine j_iaddN cx (pc := 50) dX8_take_50 ?_
    refine j_aload_n cx (pc := 51) dX8_take_51 0 rfl ?_
    refine j_get cx (pc := 52) 0 0 rfl rfl (C := RX8) (T := TX8) (N := 12) rfl hinX8 0 (by decide) f7 rfl (v := .ref (mo 1)) rfl dX8_take_52 ?_
    refine j_bipush cx (pc := 55) (v := (nI 103)) dX8_take_55 (by decide) ?_
    refine j_iload_n cx (pc := 57) dX8_take_57 1 rfl ?_
    refine j_iaddN cx (pc := 58) dX8_take_58 ?_
    refine j_iald cx (pc := 59) 0 1 0 rfl rfl rfl (by omega) (by decide) dX8_take_59 ?_
    obtain ⟨V4, hV4⟩ : ∃ z, z = (C8_offer V3 (stage + 1) (V3 1 (103 + stage))) := ⟨_, rfl⟩
    have cnV4 : vp_in (V4 1 10) 101 := by rw [hV4]; exact cn_offer cnV3
    refine j_callv cx (pc := 60) 2 (c_X8_offer l D Y mo V3 (stage + 1) (V3 1 (103 + stage)) (by omega) (vp_mono cnV3 (by decide))) gX8_take_X8_offer rfl (by decide +kernel) rfl ⟨Nat.le_of_ble_eq_true rfl, Nat.le_of_ble_eq_true rfl⟩ [0] rfl (by decide) (Bs' := [moB Y mo V4]) (by rw [hV4]; exact P1_mo V3 (C8_offer V3 (stage + 1) (V3 1 (103 + stage)))) A1_mo 0 0 rfl rfl rfl rfl (Nat.le_of_ble_eq_true rfl) dX8_take_60 ⟨Nat.zero_le _, Nat.zero_le _⟩ ?_
    subst hQ; exact j_vret cx hr (by subst hV4; subst hV3; subst hV2; subst hV1; simp only [C8_take, if_pos c44_1]) hA dX8_take_63
