/-! rows of numbers that a loop leaves, by how far it is -/
def shl (f : Nat → Int32) (a i : Nat) : Nat → Int32 := fun j => if a ≤ j ∧ j < a + i then f (j + 1) else f j
def sh3 (f : Nat → Int32) (t : Nat) : Nat → Int32 := fun j => if 169 + t < j ∧ j ≤ 318 then f (j - 3) else f j
def sh4 (f : Nat → Int32) (p i : Nat) : Nat → Int32 := fun j => if p ≤ j ∧ j < i then f (j + 4) else f j
def zer (f : Nat → Int32) (a i : Nat) : Nat → Int32 := fun j => if a ≤ j ∧ j < i then nI 0 else f j
def cpN (f g : Nat → Int32) (i : Nat) : Nat → Int32 := fun j => if j < i then f j else g j
def sh7 (f : Nat → Int32) (i : Nat) : Nat → Int32 := fun j => if j < i then f (j + 719) else f j
def ptN (h : Nat → Int32) (b : Nat) (f : Nat → Int32) (i : Nat) : Nat → Int32 := fun j => if b ≤ j ∧ j < b + i then f (j - b) else h j
def gtN (f h : Nat → Int32) (b i : Nat) : Nat → Int32 := fun j => if j < i then h (b + j) else f j
theorem up_setC (V : Nat → Nat → Int32) (c k : Nat) (g : Nat → Int32) (x : Int32) : up1 (setC V c g) c k x = setC V c (upd g k x) := by
  funext c' j
  by_cases h : c' = c
  · subst h; simp [setC]
  · simp [setC, h]
theorem setC_self (V : Nat → Nat → Int32) (c : Nat) : setC V c (V c) = V := by
  funext c'
  by_cases h : c' = c
  · subst h; simp [setC]
  · simp [setC, h]
theorem shl_0 (V : Nat → Nat → Int32) (c a : Nat) : setC V c (shl (V c) a 0) = V := by
  rw [show shl (V c) a 0 = V c from funext fun j => if_neg (by omega)]; exact setC_self V c
theorem shl_s (V : Nat → Nat → Int32) (c a i : Nat) : up1 (setC V c (shl (V c) a i)) c (a + i) (setC V c (shl (V c) a i) c (a + i + 1)) = setC V c (shl (V c) a (i + 1)) := by
  rw [up_setC, setC_eq]
  congr 1
  funext j
  show (if j = a + i then (if a ≤ a + i + 1 ∧ a + i + 1 < a + i then _ else _) else (if a ≤ j ∧ j < a + i then _ else _)) = (if a ≤ j ∧ j < a + (i + 1) then _ else _)
  rw [if_neg (show ¬ (a ≤ a + i + 1 ∧ a + i + 1 < a + i) by omega)]
  by_cases h : j = a + i
  · subst h; rw [if_pos rfl, if_pos (by omega)]
  · rw [if_neg h]
    by_cases h2 : a ≤ j ∧ j < a + i
    · rw [if_pos h2, if_pos (by omega)]
    · rw [if_neg h2, if_neg (by omega)]
theorem sh3_0 (V : Nat → Nat → Int32) (c : Nat) : setC V c (sh3 (V c) 149) = V := by
  rw [show sh3 (V c) 149 = V c from funext fun j => if_neg (by omega)]; exact setC_self V c
theorem sh3_s (V : Nat → Nat → Int32) (c t : Nat) (h2 : 2 ≤ t) (ht : t < 149) : up1 (setC V c (sh3 (V c) (t + 1))) c (169 + (t + 1)) (setC V c (sh3 (V c) (t + 1)) c (169 + (t + 1) - 3)) = setC V c (sh3 (V c) t) := by
  rw [up_setC, setC_eq]
  congr 1
  funext j
  show (if j = 169 + (t + 1) then (if 169 + (t + 1) < 169 + (t + 1) - 3 ∧ 169 + (t + 1) - 3 ≤ 318 then _ else _) else (if 169 + (t + 1) < j ∧ j ≤ 318 then _ else _)) = (if 169 + t < j ∧ j ≤ 318 then _ else _)
  rw [if_neg (show ¬ (169 + (t + 1) < 169 + (t + 1) - 3 ∧ 169 + (t + 1) - 3 ≤ 318) by omega)]
  by_cases h : j = 169 + (t + 1)
  · subst h; rw [if_pos rfl, if_pos (by omega)]
  · rw [if_neg h]
    by_cases h3 : 169 + (t + 1) < j ∧ j ≤ 318
    · rw [if_pos h3, if_pos (by omega)]
    · rw [if_neg h3, if_neg (by omega)]
theorem sh4_0 (V : Nat → Nat → Int32) (c p : Nat) : setC V c (sh4 (V c) p p) = V := by
  rw [show sh4 (V c) p p = V c from funext fun j => if_neg (by omega)]; exact setC_self V c
theorem sh4_s (V : Nat → Nat → Int32) (c p i : Nat) (h : p ≤ i) : up1 (setC V c (sh4 (V c) p i)) c i (setC V c (sh4 (V c) p i) c (i + 4)) = setC V c (sh4 (V c) p (i + 1)) := by
  rw [up_setC, setC_eq]
  congr 1
  funext j
  show (if j = i then (if p ≤ i + 4 ∧ i + 4 < i then _ else _) else (if p ≤ j ∧ j < i then _ else _)) = (if p ≤ j ∧ j < i + 1 then _ else _)
  rw [if_neg (show ¬ (p ≤ i + 4 ∧ i + 4 < i) by omega)]
  by_cases h2 : j = i
  · subst h2; rw [if_pos rfl, if_pos (by omega)]
  · rw [if_neg h2]
    by_cases h3 : p ≤ j ∧ j < i
    · rw [if_pos h3, if_pos (by omega)]
    · rw [if_neg h3, if_neg (by omega)]
theorem zer_0 (V : Nat → Nat → Int32) (c a : Nat) : setC V c (zer (V c) a a) = V := by
  rw [show zer (V c) a a = V c from funext fun j => if_neg (by omega)]; exact setC_self V c
theorem zer_s (V : Nat → Nat → Int32) (c a i : Nat) (h : a ≤ i) : up1 (setC V c (zer (V c) a i)) c i (nI 0) = setC V c (zer (V c) a (i + 1)) := by
  rw [up_setC]
  congr 1
  funext j
  show (if j = i then _ else (if a ≤ j ∧ j < i then _ else _)) = (if a ≤ j ∧ j < i + 1 then _ else _)
  by_cases h2 : j = i
  · subst h2; rw [if_pos rfl, if_pos (by omega)]
  · rw [if_neg h2]
    by_cases h3 : a ≤ j ∧ j < i
    · rw [if_pos h3, if_pos (by omega)]
    · rw [if_neg h3, if_neg (by omega)]
theorem cpN_0 (V : Nat → Nat → Int32) (c d : Nat) : setC V c (cpN (V d) (V c) 0) = V := by
  rw [show cpN (V d) (V c) 0 = V c from funext fun j => if_neg (by omega)]; exact setC_self V c
theorem cpN_s (V : Nat → Nat → Int32) (c d i : Nat) (h : d ≠ c) : up1 (setC V c (cpN (V d) (V c) i)) c i (setC V c (cpN (V d) (V c) i) d i) = setC V c (cpN (V d) (V c) (i + 1)) := by
  rw [up_setC, setC_ne h]
  congr 1
  funext j
  show (if j = i then _ else (if j < i then _ else _)) = (if j < i + 1 then _ else _)
  by_cases h2 : j = i
  · subst h2; rw [if_pos rfl, if_pos (by omega)]
  · rw [if_neg h2]
    by_cases h3 : j < i
    · rw [if_pos h3, if_pos (by omega)]
    · rw [if_neg h3, if_neg (by omega)]
theorem sh7_0 (V : Nat → Nat → Int32) (c : Nat) : setC V c (sh7 (V c) 0) = V := by
  rw [show sh7 (V c) 0 = V c from funext fun j => if_neg (by omega)]; exact setC_self V c
theorem sh7_s (V : Nat → Nat → Int32) (c i : Nat) : up1 (setC V c (sh7 (V c) i)) c i (setC V c (sh7 (V c) i) c (i + 719)) = setC V c (sh7 (V c) (i + 1)) := by
  rw [up_setC, setC_eq]
  congr 1
  funext j
  show (if j = i then (if i + 719 < i then _ else _) else (if j < i then _ else _)) = (if j < i + 1 then _ else _)
  rw [if_neg (show ¬ (i + 719 < i) by omega)]
  by_cases h2 : j = i
  · subst h2; rw [if_pos rfl, if_pos (by omega)]
  · rw [if_neg h2]
    by_cases h3 : j < i
    · rw [if_pos h3, if_pos (by omega)]
    · rw [if_neg h3, if_neg (by omega)]
theorem ptN_0 (V : Nat → Nat → Int32) (c d b : Nat) : setC V c (ptN (V c) b (V d) 0) = V := by
  rw [show ptN (V c) b (V d) 0 = V c from funext fun j => if_neg (by omega)]; exact setC_self V c
theorem ptN_s (V : Nat → Nat → Int32) (c d b i : Nat) (h : d ≠ c) : up1 (setC V c (ptN (V c) b (V d) i)) c (b + i) (setC V c (ptN (V c) b (V d) i) d i) = setC V c (ptN (V c) b (V d) (i + 1)) := by
  rw [up_setC, setC_ne h]
  congr 1
  funext j
  show (if j = b + i then _ else (if b ≤ j ∧ j < b + i then _ else _)) = (if b ≤ j ∧ j < b + (i + 1) then V d (j - b) else _)
  by_cases h2 : j = b + i
  · subst h2; rw [if_pos rfl, if_pos (by omega), Nat.add_sub_cancel_left]
  · rw [if_neg h2]
    by_cases h3 : b ≤ j ∧ j < b + i
    · rw [if_pos h3, if_pos (by omega)]
    · rw [if_neg h3, if_neg (by omega)]
theorem gtN_0 (V : Nat → Nat → Int32) (c d b : Nat) : setC V c (gtN (V c) (V d) b 0) = V := by
  rw [show gtN (V c) (V d) b 0 = V c from funext fun j => if_neg (by omega)]; exact setC_self V c
theorem gtN_s (V : Nat → Nat → Int32) (c d b i : Nat) (h : d ≠ c) : up1 (setC V c (gtN (V c) (V d) b i)) c i (setC V c (gtN (V c) (V d) b i) d (b + i)) = setC V c (gtN (V c) (V d) b (i + 1)) := by
  rw [up_setC, setC_ne h]
  congr 1
  funext j
  show (if j = i then _ else (if j < i then _ else _)) = (if j < i + 1 then V d (b + j) else _)
  by_cases h2 : j = i
  · subst h2; rw [if_pos rfl, if_pos (by omega)]
  · rw [if_neg h2]
    by_cases h3 : j < i
    · rw [if_pos h3, if_pos (by omega)]
    · rw [if_neg h3, if_neg (by omega)]
theorem vp_mono {x : Int32} {n m : Nat} (h : vp_in x n) (hm : n ≤ m) : vp_in x m := fun q => h (q.elim Or.inl (fun z => Or.inr (Nat.le_trans hm z)))
theorem vp_suc {x : Int32} {n : Nat} (h : vp_in x n) (hn : n < 2 ^ 31 - 1) : vp_in (x + nI 1) (n + 1) := by
  obtain ⟨j, hj, rfl⟩ := vp_in_of h (by omega)
  rw [nI_add]
  exact vp_in_nI (by omega) (by omega)
theorem up1_eq {V : Nat → Nat → Int32} {c i : Nat} {x : Int32} : up1 V c i x c i = x := by show setC V c _ c i = x; rw [setC_eq]; exact if_pos rfl
theorem up1_in {V : Nat → Nat → Int32} {c i j : Nat} {x : Int32} (h : j ≠ i) : up1 V c i x c j = V c j := by show setC V c _ c j = _; rw [setC_eq]; exact if_neg h
theorem cn_up {M : Nat → Nat → Int32} {i n : Nat} {x : Int32} (h : i ≠ 10) (hn : vp_in (M 1 10) n) : vp_in (up1 M 1 i x 1 10) n := by
  have e : up1 M 1 i x 1 10 = M 1 10 := by show upd (M 1) i x 10 = _; exact if_neg (by omega)
  rw [e]; exact hn
theorem cn_0 {M : Nat → Nat → Int32} {i n : Nat} {x : Int32} (hn : vp_in (M 1 10) n) : vp_in (up1 M 0 i x 1 10) n := hn
def C8_within  (v : Int32) (least : Int32) (most : Int32) : Int32 :=
  if v < least then
    (nI 0)
  else
    if most < v then
      (nI 0)
    else
      (nI 1)
theorem bl_within (a b c : Int32) : C8_within a b c = nI 0 ∨ C8_within a b c = nI 1 := by
  unfold C8_within
  repeat' split
  all_goals first | exact Or.inl rfl | exact Or.inr rfl
def C8_isWire  (wire : Int32) : Int32 :=
  (C8_within wire (nI 0) (nI 2))
def C8_isSender  (sender : Int32) : Int32 :=
  (C8_within sender (nI 0) (nI 1))
def C8_isLink (M : Nat → Nat → Int32) (link : Int32) : Int32 :=
  (C8_within link (nI 0) (M 1 3))
def C8_end (M : Nat → Nat → Int32) (link : Nat) (which : Nat) : Int32 :=
  (M 1 ((34 + (6 * link)) + which))
def C8_setEnd (M : Nat → Nat → Int32) (link : Nat) (which : Nat) (value : Int32) : Nat → Nat → Int32 :=
  let V1 := up1 M 1 ((34 + (6 * link)) + which) value
  V1
theorem cn_setEnd {M : Nat → Nat → Int32} {k w n : Nat} {x : Int32} (hn : vp_in (M 1 10) n) : vp_in (C8_setEnd M k w x 1 10) n := cn_up (by omega) hn
def C8_make (M : Nat → Nat → Int32) (link : Nat) (wire : Nat) (value : Int32) (longer : Int32) : Nat → Nat → Int32 :=
  let V1 := up1 M 1 ((319 + (4 * (tN (M 1 10)))) + 0) (((M 1 4) + (M 1 ((13 + (3 * link)) + wire))) + longer)
  let V2 := up1 V1 1 ((319 + (4 * (tN (M 1 10)))) + 1) (nI link)
  let V3 := up1 V2 1 ((319 + (4 * (tN (M 1 10)))) + 2) (nI wire)
  let V4 := up1 V3 1 ((319 + (4 * (tN (M 1 10)))) + 3) value
  let V5 := up1 V4 1 10 ((V4 1 10) + (nI 1))
  V5
theorem cn_make {M : Nat → Nat → Int32} {k w n : Nat} {x y : Int32} (hn : vp_in (M 1 10) n) (h : n < 2 ^ 31 - 1 := by decide) : vp_in (C8_make M k w x y 1 10) (n + 1) := by
  have e : C8_make M k w x y 1 10 = M 1 10 + nI 1 := by
    unfold C8_make
    try dsimp only
    rw [up1_eq, up1_in (by omega), up1_in (by omega), up1_in (by omega), up1_in (by omega)]
  rw [e]; exact vp_suc hn h
def C8_offer (M : Nat → Nat → Int32) (link : Nat) (word : Int32) : Nat → Nat → Int32 :=
  let V1 := (C8_setEnd M link 4 word)
  let V2 := (C8_make V1 link 2 word (nI 0))
  let V3 := (C8_setEnd V2 link 0 (nI 1))
  let V4 := (C8_make V3 link 0 (nI 1) (V3 1 0))
  let V5 := up1 V4 1 (76 + link) (nI 0)
  let V6 := up1 V5 1 (90 + link) ((V5 1 (90 + link)) + (nI 1))
  V6
theorem cn_offer {M : Nat → Nat → Int32} {k n : Nat} {x : Int32} (hn : vp_in (M 1 10) n) (h : n < 1000 := by decide) : vp_in (C8_offer M k x 1 10) (n + 2) := by
  unfold C8_offer
  exact cn_up (by omega) (cn_up (by omega) (cn_make (cn_setEnd (cn_make (cn_setEnd hn) (by omega))) (by omega)))
def C8_answer (M : Nat → Nat → Int32) (link : Nat) (value : Int32) (longer : Int32) : Nat → Nat → Int32 :=
  let V1 := (C8_setEnd M link 2 value)
  let V2 := (C8_make V1 link 1 value longer)
  V2
theorem cn_answer {M : Nat → Nat → Int32} {k n : Nat} {x y : Int32} (hn : vp_in (M 1 10) n) (h : n < 1000 := by decide) : vp_in (C8_answer M k x y 1 10) (n + 1) := cn_make (cn_setEnd hn) (by omega)
def C8_take (M : Nat → Nat → Int32) (stage : Nat) : Nat → Nat → Int32 :=
  let V1 := up1 M 1 (97 + stage) (nI 1)
  let V2 := up1 V1 1 (103 + stage) (C8_end V1 stage 5)
  let V3 := (C8_answer V2 stage (nI 1) (nI 0))
  if (V3 1 ((76 + stage) + 1)) = (nI 1) then
    let V4 := (C8_offer V3 (stage + 1) (V3 1 (103 + stage)))
    V4
  else
    V3
