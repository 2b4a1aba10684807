/-! what is told of a line: on both sides -/
theorem tell_out {U : Nat → Nat → Int32} {what lead : Int32} (h : what < nI 0 ∨ nI 12 < what) : C3_tell U what lead = (-2) := by
  have ne : ∀ j, j ≤ 12 → ¬ what = nI j := fun j hj e => by
    subst e
    rcases h with q | q
    · rw [nI_ltI (by omega) (by decide)] at q; omega
    · rw [nI_ltI (by decide) (by omega)] at q; omega
  unfold C3_tell
  rw [if_neg (ne 0 (by decide)), if_neg (ne 1 (by decide)), if_neg (ne 2 (by decide)), if_neg (ne 3 (by decide)), if_neg (ne 4 (by decide)), if_neg (ne 5 (by decide)), if_neg (ne 6 (by decide)), if_neg (ne 7 (by decide)), if_neg (ne 8 (by decide)), if_neg (ne 9 (by decide)), if_neg (ne 10 (by decide)), if_neg (ne 11 (by decide)), if_neg (ne 12 (by decide))]
theorem tell_3 {U : Nat → Nat → Int32} {lead : Int32} {w : Nat} (h : w < 3) : C3_tell U (nI w) lead = U 1 w := by
  rcases (show w = 0 ∨ w = 1 ∨ w = 2 by omega) with rfl | rfl | rfl
  · exact if_pos rfl
  · exact (if_neg (by decide)).trans (if_pos rfl)
  · exact (if_neg (by decide)).trans ((if_neg (by decide)).trans (if_pos rfl))
theorem tell_9 {U : Nat → Nat → Int32} {lead : Int32} {w : Nat} (h : w < 6) : C3_tell U (nI (3 + w)) lead = U 0 w := by
  rcases (show w = 0 ∨ w = 1 ∨ w = 2 ∨ w = 3 ∨ w = 4 ∨ w = 5 by omega) with rfl | rfl | rfl | rfl | rfl | rfl
  · exact (if_neg (by decide)).trans ((if_neg (by decide)).trans ((if_neg (by decide)).trans (if_pos rfl)))
  · exact (if_neg (by decide)).trans ((if_neg (by decide)).trans ((if_neg (by decide)).trans ((if_neg (by decide)).trans (if_pos rfl))))
  · exact (if_neg (by decide)).trans ((if_neg (by decide)).trans ((if_neg (by decide)).trans ((if_neg (by decide)).trans ((if_neg (by decide)).trans (if_pos rfl)))))
  · exact (if_neg (by decide)).trans ((if_neg (by decide)).trans ((if_neg (by decide)).trans ((if_neg (by decide)).trans ((if_neg (by decide)).trans ((if_neg (by decide)).trans (if_pos rfl))))))
  · exact (if_neg (by decide)).trans ((if_neg (by decide)).trans ((if_neg (by decide)).trans ((if_neg (by decide)).trans ((if_neg (by decide)).trans ((if_neg (by decide)).trans ((if_neg (by decide)).trans (if_pos rfl)))))))
  · exact (if_neg (by decide)).trans ((if_neg (by decide)).trans ((if_neg (by decide)).trans ((if_neg (by decide)).trans ((if_neg (by decide)).trans ((if_neg (by decide)).trans ((if_neg (by decide)).trans ((if_neg (by decide)).trans (if_pos rfl))))))))
theorem tell_rest {U : Nat → Nat → Int32} {lead : Int32} {w : Nat} (h : 9 ≤ w) (h2 : w ≤ 12) : C3_tell U (nI w) lead = if w = 9 then (if U 0 6 = 0 then nI 0 else nI 1) else if w = 10 then (if U 0 7 = 0 then nI 0 else nI 1) else if w = 11 then U 0 8 else (if U 1 0 + lead < U 1 2 then nI 0 else nI 1) := by
  have ne : ∀ j, j < 9 → ¬ nI w = nI j := fun j hj e => by
    rw [nI_eq (by omega) (by omega)] at e; omega
  unfold C3_tell
  rw [if_neg (ne 0 (by decide)), if_neg (ne 1 (by decide)), if_neg (ne 2 (by decide)), if_neg (ne 3 (by decide)), if_neg (ne 4 (by decide)), if_neg (ne 5 (by decide)), if_neg (ne 6 (by decide)), if_neg (ne 7 (by decide)), if_neg (ne 8 (by decide))]
  rcases (show w = 9 ∨ w = 10 ∨ w = 11 ∨ w = 12 by omega) with rfl | rfl | rfl | rfl
  · exact if_pos rfl
  · exact (if_neg (by decide)).trans (if_pos rfl)
  · exact (if_neg (by decide)).trans ((if_neg (by decide)).trans (if_pos rfl))
  · exact (if_neg (by decide)).trans ((if_neg (by decide)).trans ((if_neg (by decide)).trans (if_pos rfl)))
theorem tells_rest {M : Nat → Nat → Int32} {k w : Nat} (h : 9 ≤ w) (h2 : w ≤ 12) : C8_tellsLink M k w = if w = 9 then M 1 (76 + k) else if w = 10 then M 1 (83 + k) else if w = 11 then M 1 (90 + k) else (if M 1 ((13 + (3 * k)) + 0) + M 1 0 < M 1 ((13 + (3 * k)) + 2) then nI 0 else nI 1) := by
  unfold C8_tellsLink
  rw [if_pos (show 3 ≤ w by omega), if_pos h]
  rcases (show w = 9 ∨ w = 10 ∨ w = 11 ∨ w = 12 by omega) with rfl | rfl | rfl | rfl
  · exact if_pos rfl
  · exact (if_neg (by decide)).trans (if_pos rfl)
  · exact (if_neg (by decide)).trans ((if_neg (by decide)).trans (if_pos rfl))
  · exact (if_neg (by decide)).trans ((if_neg (by decide)).trans (if_neg (by decide)))
theorem flag_if {p : Prop} [Decidable p] {x : Int32} (h : x = nI (if p then 1 else 0)) : (if x = 0 then nI 0 else nI 1) = x := by
  subst h
  by_cases c : p
  · rw [if_pos c]; rfl
  · rw [if_neg c]; rfl
theorem hl_is {V M : Nat → Nat → Int32} {nS : Nat} (h6 : nS ≤ 6) (eV : V 0 0 = nI nS) (eM : M 1 3 = nI nS) (link : Int32) : (C2_hasLink V link = 0 ∧ C8_isLink M link = 0) ∨ (¬ C2_hasLink V link = 0 ∧ ¬ C8_isLink M link = 0 ∧ ∃ k, k ≤ nS ∧ link = nI k) := by
  rcases wi_ok2 (v := link) (a := 0) (b := nS) (by decide) (by omega) with ⟨w0, w1⟩ | ⟨w0, k, -, k2, rfl⟩
  · left
    refine ⟨?_, by unfold C8_isLink; rw [eM]; exact w0⟩
    unfold C2_hasLink
    rw [eV]
    by_cases z : link < 0
    · rw [if_pos z]; rfl
    · rw [if_neg z, if_pos (w1.resolve_left z)]; rfl
  · right
    refine ⟨?_, by unfold C8_isLink; rw [eM]; exact w0, k, k2, rfl⟩
    unfold C2_hasLink
    rw [eV, if_neg (nI_pos (by omega)), if_neg (show ¬ nI nS < nI k by rw [nI_ltI (by omega) (by omega)]; omega)]
    decide
theorem R_n3 {V M : Nat → Nat → Int32} {L : List (Nat × Nat)} {n p nS t cap : Nat} {ph : Nat → Nat} (h : Rel V (M 1) L n p) (i : Inv V L n p nS t ph cap) : M 1 3 = nI nS := by
  rw [show M 1 3 = V 0 0 from (R_eq h (c := 0) (i := 0) (by decide)).symm]; exact i.1.2.2.1
theorem Q_link {F : Nat → Nat → Nat → Int32} {M : Nat → Nat → Int32} {L : List (Nat × Nat)} {n p nS t cap : Nat} {ph : Nat → Nat} (h : Rel (F 0) (M 1) L n p) (i : Inv (F 0) L n p nS t ph cap) (link what : Int32) : C7_link F link what = C8_link M link what := by
  have n6 := i.1.2.1
  unfold C7_link C8_link
  rcases hl_is n6 i.1.2.2.1 (R_n3 h i) link with ⟨a, b⟩ | ⟨a, b, k, hk, rfl⟩
  · rw [if_pos a, if_pos b]
  · rw [if_neg a, if_neg b, tN_nI (show k < 2 ^ 31 by omega)]
    try dsimp only
    rcases wi_ok2 (v := what) (a := 0) (b := 12) (by decide) (by decide) with ⟨w0, w1⟩ | ⟨w0, w, -, w2, rfl⟩
    · rw [if_pos w0]; exact tell_out w1
    · rw [if_neg w0, tN_nI (show w < 2 ^ 31 by omega)]
      by_cases c3 : w < 3
      · rw [tell_3 c3]
        unfold C8_tellsLink
        rw [if_neg (show ¬ 3 ≤ w by omega)]
        exact R_d h (by omega) c3
      · by_cases c9 : w < 9
        · obtain ⟨j, rfl⟩ : ∃ j, w = 3 + j := ⟨w - 3, by omega⟩
          rw [tell_9 (show j < 6 by omega)]
          unfold C8_tellsLink C8_end
          rw [if_pos (show 3 ≤ 3 + j by omega), if_neg (show ¬ 9 ≤ 3 + j by omega), show 3 + j - 3 = j by omega]
          have := R_eq h (ps_lk (k := k) (f := j) (by omega) (by omega)).2
          rw [(ps_lk (k := k) (f := j) (by omega) (by omega)).1] at this
          exact this
        · rw [tell_rest (show 9 ≤ w by omega) w2, tells_rest (show 9 ≤ w by omega) w2]
          have lk := i.2.2.1 k (by omega)
          have e9 := R_eq h (ps_rest (k := k) (by omega)).2
          have e10 := R_eq h (ps_wait (k := k) (by omega)).2
          have e11 := R_eq h (ps_off (k := k) (by omega)).2
          rw [(ps_rest (k := k) (by omega)).1] at e9
          rw [(ps_wait (k := k) (by omega)).1] at e10
          rw [(ps_off (k := k) (by omega)).1] at e11
          have f6 : (if F 0 (11 + k) 6 = 0 then nI 0 else nI 1) = M 1 (76 + k) := (flag_if lk.2.1).trans e9
          have f7 : (if F 0 (11 + k) 7 = 0 then nI 0 else nI 1) = M 1 (83 + k) := (flag_if lk.2.2.1).trans e10
          have d0 : F 0 (18 + k) 0 = M 1 ((13 + (3 * k)) + 0) := R_d h (by omega) (by decide)
          have d2 : F 0 (18 + k) 2 = M 1 ((13 + (3 * k)) + 2) := R_d h (by omega) (by decide)
          have le : F 0 1 0 = M 1 0 := R_eq h (c := 1) (i := 0) (by decide)
          rw [← f6, ← f7, ← e11, ← d0, ← d2, ← le]
          rfl
theorem Q_stage {F : Nat → Nat → Nat → Int32} {M : Nat → Nat → Int32} {L : List (Nat × Nat)} {n p nS t cap : Nat} {ph : Nat → Nat} (h : Rel (F 0) (M 1) L n p) (i : Inv (F 0) L n p nS t ph cap) (stage : Int32) : C7_stage F stage = C8_stage M stage := by
  have n6 := i.1.2.1
  have n1 := i.1.1
  unfold C7_stage C8_stage
  rw [R_n3 h i, tN_nI (show nS < 2 ^ 31 by omega), i.1.2.2.1]
  rcases wi_ok2 (v := stage) (a := 0) (b := nS - 1) (by decide) (by omega) with ⟨w0, w1⟩ | ⟨w0, k, -, k2, rfl⟩
  · rw [if_pos w0]
    by_cases z : stage < 0
    · rw [if_pos z]
    · rw [if_neg z, if_neg]
      intro y
      obtain ⟨r, hr, rfl⟩ := nI_of z
      have q := w1.resolve_left z
      rw [nI_ltI (by omega) hr] at q
      rw [nI_ltI hr (by omega)] at y
      omega
  · rw [if_neg w0, if_neg (nI_pos (by omega)), if_pos (show nI k < nI nS by rw [nI_ltI (by omega) (by omega)]; omega), tN_nI (show k < 2 ^ 31 by omega)]
    try dsimp only
    rcases h.2.2.2.1 k (by omega) with ⟨a, b⟩ | ⟨w, hw, a, b, c⟩
    · rw [if_pos a, b, if_neg (by decide)]
    · rw [a, b, c, if_pos rfl, if_neg (nI_nem1 (by omega))]
theorem Q_waiting {F : Nat → Nat → Nat → Int32} {M : Nat → Nat → Int32} {L : List (Nat × Nat)} {n p : Nat} (h : Rel (F 0) (M 1) L n p) (sender place : Int32) : C7_waiting F sender place = C8_waiting M sender place := by
  unfold C7_waiting C8_waiting C8_isSender
  rcases wi_ok2 (v := sender) (a := 0) (b := 1) (by decide) (by decide) with ⟨w0, w1⟩ | ⟨w0, s, -, s2, rfl⟩
  · rw [if_pos w0]
    by_cases z : sender < 0
    · rw [if_pos z]
    · rw [if_neg z, if_neg]
      intro y
      obtain ⟨r, hr, rfl⟩ := nI_of z
      have q := w1.resolve_left z
      rw [nI_ltI (by omega) hr] at q
      rw [nI_ltI hr (by omega)] at y
      omega
  · rw [if_neg w0, if_neg (nI_pos (by omega)), if_pos (show nI s < nI 2 by rw [nI_ltI (by omega) (by omega)]; omega), tN_nI (show s < 2 ^ 31 by omega)]
    by_cases z : 0 ≤ place
    · rw [if_pos z, if_pos z]
      try dsimp only
      obtain ⟨c, hc, e, hw⟩ := h.2.2.2.2.1 s (by omega)
      have em : M 1 (11 + s) = nI c := by
        rw [← e]
        rcases (show s = 0 ∨ s = 1 by omega) with rfl | rfl
        · exact (R_eq h (c := 27) (i := 0) (by decide)).symm
        · exact (R_eq h (c := 28) (i := 0) (by decide)).symm
      have eu : rwU (F 0) s 0 0 = nI c := e
      unfold C5_wordAt
      rw [eu, em, tN_nI (show c < 2 ^ 31 by omega), if_neg (Int32.not_lt.mpr z)]
      by_cases y : c ≤ tN place
      · rw [if_pos y, if_pos y, if_pos rfl]
      · rw [if_neg y, if_neg y]
        obtain ⟨w, hw1, hw2, hw3⟩ := hw (tN place) (by omega)
        have eu1 : rwU (F 0) s 1 (tN place) = nI w := hw2
        rw [eu1, if_neg (nI_nem1 (by omega)), show 109 + 20 * s + tN place = (109 + (20 * s)) + tN place from rfl, hw3]
    · rw [if_neg z, if_neg z]
theorem C4_at {U : Nat → Nat → Int32} {n r w : Nat} (hn : n < 2 ^ 31) (e : U 0 0 = nI n) (hr : r < 2 ^ 31) (hw : w < 3) : C4_tell U (nI r) (nI w) = if 50 ≤ r then (-5) else if n ≤ r then (-5) else U (1 + w) ((n - 1 - r) % 50) := by
  unfold C4_tell
  rw [if_neg (nI_pos hr), e, tN_nI hn, tN_nI hr]
  by_cases c : n ≤ r
  · rw [if_pos ((nI_leI hn hr).mpr c), if_pos c]
    by_cases d : 50 ≤ r
    · rw [if_pos d]
    · rw [if_neg d]
  · rw [if_neg (fun z => c ((nI_leI hn hr).mp z)), if_neg c]
    by_cases d : 50 ≤ r
    · rw [if_pos d, if_neg]
      intro z
      rw [nI_ltI hr (by decide)] at z
      omega
    · rw [if_neg d, if_pos ((nI_ltI hr (by decide)).mpr (by omega))]
      rcases (show w = 0 ∨ w = 1 ∨ w = 2 by omega) with rfl | rfl | rfl
      · exact if_pos rfl
      · exact (if_neg (by decide)).trans (if_pos rfl)
      · exact (if_neg (by decide)).trans (if_neg (by decide))
theorem Q_noted {F : Nat → Nat → Nat → Int32} {M : Nat → Nat → Int32} {L : List (Nat × Nat)} {n p : Nat} (h : Rel (F 0) (M 1) L n p) (rank what : Int32) : C7_noted F rank what = C8_noted M rank what := by
  unfold C7_noted C8_noted
  by_cases z : rank < 0
  · rw [if_pos z, if_pos z]
  · obtain ⟨r, hr, rfl⟩ := nI_of z
    rw [if_neg z, if_neg z]
    rcases wi_ok2 (v := what) (a := 0) (b := 2) (by decide) (by decide) with ⟨w0, w1⟩ | ⟨w0, w, -, w2, rfl⟩
    · rw [if_pos w0]
      by_cases y : what < 0
      · rw [if_pos y]
      · rw [if_neg y, if_neg (Int32.not_le.mpr (w1.resolve_left y))]
    · have hn30 := h.2.2.2.2.2.1.2.1
      have e7 : F 0 7 0 = nI n := h.2.2.2.2.2.1.2.2.1
      have m5 : M 1 5 = nI n := by rw [← e7]; exact (R_eq h (c := 7) (i := 0) (by decide)).symm
      rw [if_neg w0, if_neg (nI_pos (by omega)), if_pos ((nI_leI (by omega) (by decide)).mpr w2), tN_nI hr, tN_nI (show w < 2 ^ 31 by omega), m5]
      try dsimp only
      rw [C4_at (U := ntU (F 0)) (n := n) (by omega) e7 hr (by omega)]
      by_cases c : 50 ≤ r
      · rw [if_pos c, if_pos c]
      · rw [if_neg c, if_neg c]
        by_cases d : n ≤ r
        · rw [if_pos d, if_pos ((nI_leI (by omega) hr).mpr d)]
        · rw [if_neg d, if_neg (fun q => d ((nI_leI (by omega) hr).mp q))]
          obtain ⟨a1, a2, a3⟩ := h.2.2.2.2.2.2 r (by omega) (by omega)
          rcases (show w = 0 ∨ w = 1 ∨ w = 2 by omega) with rfl | rfl | rfl
          · exact a1
          · rw [show 169 + 3 * r + 1 = 170 + 3 * r by omega]; exact a2
          · rw [show 169 + 3 * r + 2 = 171 + 3 * r by omega]; exact a3
/-- the full stages on both sides -/
def fst1 (V : Nat → Nat → Int32) (i : Nat) : Nat := if V 2 i = (-1) then 0 else 1
def fSum (V : Nat → Nat → Int32) : Nat → Nat → Nat
  | 0, _ => 0
  | q + 1, i => fst1 V i + fSum V q (i + 1)
theorem fsL_eq {V : Nat → Nat → Int32} {nS : Nat} : ∀ (q i a : Nat) , nS ≤ i + q → fsL V nS q i a = a + fSum V (min q (nS - i)) i
  | 0, i, a, _ => by
    rw [Nat.zero_min]; rfl
  | q + 1, i, a, h => by
    unfold fsL
    by_cases c : nS ≤ i
    · rw [if_pos c, show nS - i = 0 by omega, Nat.min_zero]; rfl
    · rw [if_neg c]
      rw [show min (q + 1) (nS - i) = min q (nS - (i + 1)) + 1 by omega]
      show _ = a + (fst1 V i + fSum V (min q (nS - (i + 1))) (i + 1))
      by_cases d : V 2 i = (-1)
      · rw [if_pos d, fsL_eq q (i + 1) a (by omega), show fst1 V i = 0 from if_pos d]; omega
      · rw [if_neg d, fsL_eq q (i + 1) (a + 1) (by omega), show fst1 V i = 1 from if_neg d]; omega
theorem Q_full {V M : Nat → Nat → Int32} {L : List (Nat × Nat)} {n p nS t cap : Nat} {ph : Nat → Nat} (h : Rel V (M 1) L n p) (i : Inv V L n p nS t ph cap) : C2_fullStages V = C8_fullStages M ∧ ∃ x, x ≤ 6 ∧ C2_fullStages V = nI x := by
  have n6 := i.1.2.1
  have hm : ∀ j, j < 6 → M 1 (97 + j) = nI (fst1 V j) := fun j hj => by
    unfold fst1
    rcases h.2.2.2.1 j hj with ⟨a, b⟩ | ⟨w, hw, a, b, c⟩
    · rw [if_pos a, b]
    · rw [if_neg (by rw [a]; exact nI_nem1 (by omega)), b]
  have hz : ∀ j, nS ≤ j → j < 6 → fst1 V j = 0 := fun j h1 h2 => by
    have := (i.2.2.2.1.2.2.1 (j + 1) (by omega) (by omega)).2
    unfold fu at this
    unfold fst1
    by_cases c : V 2 j = (-1)
    · rw [if_pos c]
    · rw [if_pos ⟨Nat.succ_pos j, c⟩] at this
      exact absurd this (by decide)
  have e1 : ∀ (j : Nat), fst1 V j ≤ 1 := fun j => by unfold fst1; split <;> decide
  have e2 : C8_fullStages M = nI (fst1 V 0 + fst1 V 1 + fst1 V 2 + fst1 V 3 + fst1 V 4 + fst1 V 5) := by
    unfold C8_fullStages
    rw [show M 1 97 = _ from hm 0 (by decide), show M 1 98 = _ from hm 1 (by decide), show M 1 99 = _ from hm 2 (by decide), show M 1 100 = _ from hm 3 (by decide), show M 1 101 = _ from hm 4 (by decide), show M 1 102 = _ from hm 5 (by decide)]
    simp only [nI_add]
    congr 1
    omega
  have e3 : C2_fullStages V = nI (fst1 V 0 + fst1 V 1 + fst1 V 2 + fst1 V 3 + fst1 V 4 + fst1 V 5) := by
    unfold C2_fullStages
    rw [i.1.2.2.1, tN_nI (show nS < 2 ^ 31 by omega)]
    congr 1
    have z0 := hz 0
    have z1 := hz 1
    have z2 := hz 2
    have z3 := hz 3
    have z4 := hz 4
    have z5 := hz 5
    have n1 := i.1.1
    rw [fsL_eq 7 0 0 (by omega), Nat.zero_add, Nat.sub_zero, Nat.min_eq_right (show nS ≤ 7 by omega)]
    rcases (show nS = 1 ∨ nS = 2 ∨ nS = 3 ∨ nS = 4 ∨ nS = 5 ∨ nS = 6 by omega) with rfl | rfl | rfl | rfl | rfl | rfl <;> simp only [fSum, Nat.zero_add, Nat.reduceAdd, Nat.add_zero] <;> omega
  refine ⟨e3.trans e2.symm, _, ?_, e3⟩
  have := e1 0
  have := e1 1
  have := e1 2
  have := e1 3
  have := e1 4
  have := e1 5
  omega
