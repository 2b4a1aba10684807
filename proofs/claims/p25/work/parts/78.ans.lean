/-- the answer 1 arrives at the waiter -/
theorem A_ans1_0 {V M : Nat → Nat → Int32} {L : List (Nat × Nat)} {n p t d : Nat} (h : Rel V (M 1) L n p) (hl : L.length < 64) (ht : V 0 1 = nI t) (hd : V 18 0 = nI d) (hb : t + d < 2 ^ 31) :
    Rel (C2_letAnswerArrive V 0 (nI 1)) (C8_answerArrives M 0 (nI 1) 1) (L ++ [(t + d, sgn_ 0 0 0)]) n p ∧ ∀ c i, VW c i → C2_letAnswerArrive V 0 (nI 1) c i = V c i := by
  have a := R_end (f := 3) (x := nI 1) (k := 0) h (by decide) (by decide)
  have eV : C2_letAnswerArrive V 0 (nI 1) = C2_makeRequest (up1 V (11 + 0) 3 (nI 1)) 0 (nI 0) (nI 0) := by
    unfold C2_letAnswerArrive
    try dsimp only
    rw [if_neg (show ¬ nI 1 = 0 by decide), if_pos rfl]
  have eM : C8_answerArrives M 0 (nI 1) = C8_make (C8_setEnd (C8_setEnd M 0 3 (nI 1)) 0 0 (nI 0)) 0 0 (nI 0) (nI 0) := by
    unfold C8_answerArrives
    try dsimp only
    rw [if_pos rfl, if_pos rfl]
  rw [eV, eM]
  refine ⟨R_req (e := 0) a hl (by decide) (by decide) (by rw [up1_ne (by decide)]; exact ht) (by rw [up1_ne (by decide)]; exact hd) (by omega), fun c i hw => ?_⟩
  rw [vw_req (by decide) hw, vw_up hw (by unfold VW; omega)]
/-- the answer 1 arrives behind a stage: it is empty then, and takes what waits -/
theorem A_ans1 {V M : Nat → Nat → Int32} {L : List (Nat × Nat)} {n p k w t d e : Nat} (h : Rel V (M 1) L n p) (hl : L.length + 2 ≤ 64) (hk : k < 6) (hw : w < 32) (hda : V (11 + k) 5 = nI w) (hr : V (11 + (k + 1)) 6 = nI 0) (ht : V 0 1 = nI t) (hd : V (18 + (k + 1)) 0 = nI d) (he : V (18 + k) 1 = nI e) (hb : t + d + e < 2 ^ 31) (hq : V (11 + k) 7 = nI 0 ∨ V (11 + k) 7 = nI 1) :
    (V (11 + k) 7 = nI 0 → Rel (C2_letAnswerArrive V (k + 1) (nI 1)) (C8_answerArrives M (k + 1) (nI 1) 1) (L ++ [(t + d, sgn_ (k + 1) 0 0)]) n p ∧ ∀ c i, VW c i → C2_letAnswerArrive V (k + 1) (nI 1) c i = if c = 2 ∧ i = k then (-1) else V c i) ∧
    (V (11 + k) 7 = nI 1 → Rel (C2_letAnswerArrive V (k + 1) (nI 1)) (C8_answerArrives M (k + 1) (nI 1) 1) ((L ++ [(t + d, sgn_ (k + 1) 0 0)]) ++ [(t + e, sgn_ k 1 1)]) n p ∧ ∀ c i, VW c i → C2_letAnswerArrive V (k + 1) (nI 1) c i = if c = 11 + k ∧ i = 7 then nI 0 else if c = 2 ∧ i = k then nI w else V c i) := by
  have a := R_end (f := 3) (x := nI 1) (k := k + 1) h (by omega) (by decide)
  obtain ⟨V2, e2⟩ : ∃ z, z = C2_makeRequest (up1 V (11 + (k + 1)) 3 (nI 1)) (k + 1) (nI 0) (nI 0) := ⟨_, rfl⟩
  obtain ⟨M2, g2⟩ : ∃ z, z = C8_make (C8_setEnd (C8_setEnd M (k + 1) 3 (nI 1)) (k + 1) 0 (nI 0)) (k + 1) 0 (nI 0) (nI 0) := ⟨_, rfl⟩
  have b : Rel V2 (M2 1) (L ++ [(t + d, sgn_ (k + 1) 0 0)]) n p := by
    rw [e2, g2]
    exact R_req (e := 0) a (by omega) (by omega) (by decide) (by rw [up1_ne (by omega)]; exact ht) (by rw [up1_ne (by omega)]; exact hd) (by omega)
  have u2 : ∀ c i, VW c i → V2 c i = V c i := fun c i hv => by rw [e2, vw_req (by omega) hv, vw_up hv (by unfold VW; omega)]
  have b3 := R_empty b hk
  have eV : C2_letAnswerArrive V (k + 1) (nI 1) = if (up1 V2 2 k (-1) (11 + k) 7) = 0 then up1 V2 2 k (-1) else C2_takeWord (up1 V2 2 k (-1)) k := by
    unfold C2_letAnswerArrive
    try dsimp only
    rw [if_neg (show ¬ nI 1 = 0 by decide), if_neg (show ¬ k + 1 = 0 by omega), ← e2]
    rfl
  have eM : C8_answerArrives M (k + 1) (nI 1) = if (up1 M2 1 (97 + k) (nI 0) 1 (83 + k)) = (nI 1) then C8_take (up1 (up1 M2 1 (97 + k) (nI 0)) 1 (83 + k) (nI 0)) k else up1 M2 1 (97 + k) (nI 0) := by
    unfold C8_answerArrives
    try dsimp only
    rw [if_pos rfl, if_neg (show ¬ k + 1 = 0 by omega), ← g2]
    rfl
  have q7 : up1 V2 2 k (-1) (11 + k) 7 = V (11 + k) 7 := by rw [up1_ne (by omega), u2 _ _ (by unfold VW; omega)]
  have m7 : up1 M2 1 (97 + k) (nI 0) 1 (83 + k) = V (11 + k) 7 := by
    have := R_eq b3 (ps_wait (show k < 7 by omega)).2
    rw [(ps_wait (show k < 7 by omega)).1, q7] at this
    exact this.symm
  rw [eV, eM, q7, m7]
  constructor
  · intro q
    rw [q, if_pos (show nI 0 = 0 from rfl), if_neg (show ¬ nI 0 = nI 1 by decide)]
    refine ⟨b3, fun c i hv => ?_⟩
    rw [up1_at]
    by_cases z : c = 2 ∧ i = k
    · rw [if_pos z, if_pos z]
    · rw [if_neg z, if_neg z, u2 c i hv]
  · intro q
    rw [q, if_neg (show ¬ nI 1 = 0 by decide), if_pos rfl]
    have b4 := R_wait (x := nI 0) b3 (show k < 7 by omega)
    obtain ⟨V4, e4⟩ : ∃ z, z = up1 (up1 V2 2 k (-1)) (11 + k) 7 (nI 0) := ⟨_, rfl⟩
    obtain ⟨M4, g4⟩ : ∃ z, z = up1 (up1 M2 1 (97 + k) (nI 0)) 1 (83 + k) (nI 0) := ⟨_, rfl⟩
    rw [← e4, ← g4] at b4
    have u4 : ∀ c i, VW c i → V4 c i = if c = 11 + k ∧ i = 7 then nI 0 else if c = 2 ∧ i = k then (-1) else V c i := fun c i hv => by
      rw [e4, up1_at]
      by_cases z : c = 11 + k ∧ i = 7
      · rw [if_pos z, if_pos z]
      · rw [if_neg z, if_neg z, up1_at]
        by_cases z2 : c = 2 ∧ i = k
        · rw [if_pos z2, if_pos z2]
        · rw [if_neg z2, if_neg z2, u2 c i hv]
    have et : C2_takeWord (up1 V2 2 k (-1)) k = C2_takeWord V4 k := by
      have e5 : up1 V4 (11 + k) 7 (nI 0) = V4 := by
        funext c j
        rw [up1_at]
        by_cases z : c = 11 + k ∧ j = 7
        · rw [if_pos z, z.1, z.2, e4, up1_eq]
        · rw [if_neg z]
      show C2_makeAnswer (up1 (up1 (up1 V2 2 k (-1)) (11 + k) 7 (nI 0)) 2 k (up1 (up1 V2 2 k (-1)) (11 + k) 7 (nI 0) (11 + k) 5)) k (nI 1) (nI 0) = C2_makeAnswer (up1 (up1 V4 (11 + k) 7 (nI 0)) 2 k (up1 V4 (11 + k) 7 (nI 0) (11 + k) 5)) k (nI 1) (nI 0)
      rw [e5, ← e4]
    have t := R_take b4 (by simp; omega) hk hw (by rw [u4 _ _ (by unfold VW; omega), if_pos ⟨rfl, rfl⟩]) (by rw [u4 _ _ (by unfold VW; omega), if_neg (by omega), if_neg (by omega)]; exact hda) (by rw [u4 _ _ (by unfold VW; omega), if_neg (by omega), if_neg (by omega)]; exact ht) (by rw [u4 _ _ (by unfold VW; omega), if_neg (by omega), if_neg (by omega)]; exact he) (by omega)
    have vt : ∀ c i, VW c i → C2_takeWord V4 k c i = if c = 11 + k ∧ i = 7 then nI 0 else if c = 2 ∧ i = k then nI w else V c i := fun c i hv => by
      rw [vw_take hk hv]
      by_cases z : c = 11 + k ∧ i = 7
      · rw [if_pos z, if_pos z]
      · rw [if_neg z, if_neg z]
        by_cases z2 : c = 2 ∧ i = k
        · rw [if_pos z2, if_pos z2, u4 _ _ (by unfold VW; omega), if_neg (by omega), if_neg (by omega), hda]
        · rw [if_neg z2, if_neg z2, u4 c i hv, if_neg z, if_neg z2]
    obtain ⟨M5, g5⟩ : ∃ z, z = C8_answer (up1 (up1 M4 1 (97 + k) (nI 1)) 1 (103 + k) (C8_end (up1 M4 1 (97 + k) (nI 1)) k 5)) k (nI 1) (nI 0) := ⟨_, rfl⟩
    rw [← g5] at t
    have m6 : M5 1 ((76 + k) + 1) = nI 0 := by
      have := R_eq t (ps_rest (show k + 1 < 7 by omega)).2
      rw [(ps_rest (show k + 1 < 7 by omega)).1, vt _ _ (by unfold VW; omega), if_neg (by omega), if_neg (by omega), hr] at this
      exact this.symm
    have eT : C8_take M4 k = M5 := by
      unfold C8_take
      try dsimp only
      rw [← g5, if_neg (by rw [m6]; decide)]
    rw [et, ← g4, eT]
    exact ⟨t, vt⟩
/-- the answer 0 arrives at the waiter -/
theorem A_ans0_0 {V M : Nat → Nat → Int32} {L : List (Nat × Nat)} {n p t dd dr le : Nat} (h : Rel V (M 1) L n p) (hl : L.length + 2 ≤ 64) (hp : p + 1 < 8) (hbn : n + p + 1 < 2 ^ 30) (ht : V 0 1 = nI t) (hdd : V 18 2 = nI dd) (hdr : V 18 0 = nI dr) (hle : V 1 0 = nI le) (hb : t + dd + dr + le < 2 ^ 31) :
    (wtN V = 0 → Rel (C2_letAnswerArrive V 0 (nI 0)) (C8_answerArrives M 0 (nI 0) 1) L n p ∧ ∀ c i, VW c i → C2_letAnswerArrive V 0 (nI 0) c i = if c = 11 ∧ i = 6 then nI 1 else V c i) ∧
    (0 < wtN V → ∃ w, w < 32 ∧ Rel (C2_letAnswerArrive V 0 (nI 0)) (C8_answerArrives M 0 (nI 0) 1) ((L ++ [(t + dd, sgn_ 0 2 w)]) ++ [(t + dr + le, sgn_ 0 0 1)]) n (p + 1) ∧ (∀ c i, VW c i → c ≠ 27 → c ≠ 28 → C2_letAnswerArrive V 0 (nI 0) c i = if c = 11 ∧ i = 6 then nI 0 else V c i) ∧ wtN (C2_letAnswerArrive V 0 (nI 0)) + 1 = wtN V) := by
  have a := R_end (f := 3) (x := nI 0) (k := 0) h (by decide) (by decide)
  have b := R_rest (x := nI 1) a (show 0 < 7 by decide)
  obtain ⟨V5, e5⟩ : ∃ z, z = up1 (up1 V (11 + 0) 3 (nI 0)) (11 + 0) 6 (nI 1) := ⟨_, rfl⟩
  obtain ⟨M5, g5⟩ : ∃ z, z = up1 (C8_setEnd M 0 3 (nI 0)) 1 (76 + 0) (nI 1) := ⟨_, rfl⟩
  rw [← e5, ← g5] at b
  have u5 : ∀ c i, VW c i → V5 c i = if c = 11 ∧ i = 6 then nI 1 else V c i := fun c i hv => by
    rw [e5, up1_at]
    by_cases z : c = 11 ∧ i = 6
    · rw [if_pos (show c = 11 + 0 ∧ i = 6 by omega), if_pos z]
    · rw [if_neg (show ¬ (c = 11 + 0 ∧ i = 6) by omega), if_neg z, vw_up hv (by unfold VW; omega)]
  have w5 : wtN V5 = wtN V := by
    unfold wtN
    rw [u5 27 0 (by decide), u5 28 0 (by decide)]; rfl
  have m76 : M5 1 76 = nI 1 := by rw [g5]; exact up1_eq
  have eV : C2_letAnswerArrive V 0 (nI 0) = if (C2_letOneGo V5).1 = (-1) then (C2_letOneGo V5).2 else C2_offer (C2_letOneGo V5).2 0 (C2_letOneGo V5).1 := by
    unfold C2_letAnswerArrive
    try dsimp only
    rw [if_pos (show nI 0 = 0 from rfl), if_pos rfl, ← e5]
  have eM : C8_answerArrives M 0 (nI 0) = C8_letGo M5 := by
    unfold C8_answerArrives
    try dsimp only
    rw [if_neg (show ¬ nI 0 = nI 1 by decide), if_pos rfl, ← g5]
  rw [eV, eM]
  constructor
  · intro hz
    obtain ⟨c0, a0, a1, -⟩ := b.2.2.2.2.1 0 (by decide)
    obtain ⟨c1, b0, b1, -⟩ := b.2.2.2.2.1 1 (by decide)
    have a1 : V5 27 0 = nI c0 := a1
    have b1 : V5 28 0 = nI c1 := b1
    have ew : wtN V5 = c0 + c1 := by unfold wtN; rw [a1, b1, tN_nI (by omega), tN_nI (by omega)]
    have z0 : c0 = 0 := by omega
    have z1 : c1 = 0 := by omega
    subst z0; subst z1
    obtain ⟨x1, x2⟩ := go_none a1 b1
    have eG : C8_letGo M5 = M5 := by
      unfold C8_letGo
      rw [if_neg (by rw [m76]; decide), if_pos]
      have y1 : V5 27 0 = M5 1 11 := R_eq b (by decide)
      have y2 : V5 28 0 = M5 1 12 := R_eq b (by decide)
      rw [← y1, ← y2, a1, b1]; rfl
    rw [x1, if_pos rfl, x2, eG]
    exact ⟨b, u5⟩
  · intro hz
    obtain ⟨w, M', hw, x1, x2, x3, x4, x5, x6, x7⟩ := R_go b hp hbn (by rw [m76]; decide) (by rw [w5]; exact hz)
    rw [x1, if_neg (nx_ne5 (by omega)), x3]
    have s : ∀ c i, c ≠ 0 → c ≠ 3 → c < 25 → VW c i → (C2_letOneGo V5).2 c i = if c = 11 ∧ i = 6 then nI 1 else V c i := fun c i y1 y2 y3 hv => by rw [x4 c y1 y2 y3, u5 c i hv]
    have s0 : ∀ i, i ≠ 2 → i ≠ 3 → VW 0 i → (C2_letOneGo V5).2 0 i = V 0 i := fun i y1 y2 hv => by rw [x5 i y1 y2, u5 0 i hv, if_neg (by omega)]
    refine ⟨w, hw, R_offer x2 hl (by decide) hw (by rw [s0 1 (by decide) (by decide) (by decide)]; exact ht) (by rw [s _ _ (by decide) (by decide) (by decide) (by decide)]; exact hdd) (by rw [s _ _ (by decide) (by decide) (by decide) (by decide)]; exact hdr) (by rw [s _ _ (by decide) (by decide) (by decide) (by decide)]; exact hle) hb, fun c i hv n27 n28 => ?_, ?_⟩
    · rw [vw_offer (by decide) hv]
      by_cases z : c = 11 ∧ i = 6
      · rw [if_pos (show c = 11 + 0 ∧ i = 6 by omega), if_pos z]
      · rw [if_neg (show ¬ (c = 11 + 0 ∧ i = 6) by omega), if_neg z]
        by_cases z0 : c = 0
        · subst z0
          exact s0 i (by unfold VW at hv; omega) (by unfold VW at hv; omega) hv
        · rw [s c i z0 (by unfold VW at hv; omega) (by unfold VW at hv; omega) hv, if_neg z]
    · have y : wtN (C2_offer (C2_letOneGo V5).2 0 (nI w)) = wtN (C2_letOneGo V5).2 := by
        unfold wtN
        rw [vw_offer (by decide) (show VW 27 0 by decide), vw_offer (by decide) (show VW 28 0 by decide)]; rfl
      rw [y, x7, w5]
/-- the answer 0 arrives behind a stage -/
theorem A_ans0 {V M : Nat → Nat → Int32} {L : List (Nat × Nat)} {n p k t dd dr le : Nat} (h : Rel V (M 1) L n p) (hl : L.length + 2 ≤ 64) (hk : k < 6) (ht : V 0 1 = nI t) (hdd : V (18 + (k + 1)) 2 = nI dd) (hdr : V (18 + (k + 1)) 0 = nI dr) (hle : V 1 0 = nI le) (hb : t + dd + dr + le < 2 ^ 31) :
    (V 2 k = (-1) → Rel (C2_letAnswerArrive V (k + 1) (nI 0)) (C8_answerArrives M (k + 1) (nI 0) 1) L n p ∧ ∀ c i, VW c i → C2_letAnswerArrive V (k + 1) (nI 0) c i = if c = 11 + (k + 1) ∧ i = 6 then nI 1 else V c i) ∧
    (V 2 k ≠ (-1) → ∃ w, w < 32 ∧ Rel (C2_letAnswerArrive V (k + 1) (nI 0)) (C8_answerArrives M (k + 1) (nI 0) 1) ((L ++ [(t + dd, sgn_ (k + 1) 2 w)]) ++ [(t + dr + le, sgn_ (k + 1) 0 1)]) n p ∧ ∀ c i, VW c i → C2_letAnswerArrive V (k + 1) (nI 0) c i = if c = 11 + (k + 1) ∧ i = 6 then nI 0 else V c i) := by
  have a := R_end (f := 3) (x := nI 0) (k := k + 1) h (by omega) (by decide)
  have b := R_rest (x := nI 1) a (show k + 1 < 7 by omega)
  obtain ⟨V5, e5⟩ : ∃ z, z = up1 (up1 V (11 + (k + 1)) 3 (nI 0)) (11 + (k + 1)) 6 (nI 1) := ⟨_, rfl⟩
  obtain ⟨M5, g5⟩ : ∃ z, z = up1 (C8_setEnd M (k + 1) 3 (nI 0)) 1 (76 + (k + 1)) (nI 1) := ⟨_, rfl⟩
  rw [← e5, ← g5] at b
  have u5 : ∀ c i, VW c i → V5 c i = if c = 11 + (k + 1) ∧ i = 6 then nI 1 else V c i := fun c i hv => by
    rw [e5, up1_at]
    by_cases z : c = 11 + (k + 1) ∧ i = 6
    · rw [if_pos z, if_pos z]
    · rw [if_neg z, if_neg z, vw_up hv (by unfold VW; omega)]
  have eV : C2_letAnswerArrive V (k + 1) (nI 0) = if (V5 2 k) = (-1) then V5 else C2_offer V5 (k + 1) (V5 2 k) := by
    unfold C2_letAnswerArrive
    try dsimp only
    rw [if_pos (show nI 0 = 0 from rfl), if_neg (show ¬ k + 1 = 0 by omega), ← e5]
    rfl
  have eM : C8_answerArrives M (k + 1) (nI 0) = if (M5 1 (97 + k)) = (nI 1) then C8_offer M5 (k + 1) (M5 1 (103 + k)) else M5 := by
    unfold C8_answerArrives
    try dsimp only
    rw [if_neg (show ¬ nI 0 = nI 1 by decide), if_neg (show ¬ k + 1 = 0 by omega), ← g5]
    rfl
  have v2 : V5 2 k = V 2 k := by rw [u5 _ _ (by unfold VW; omega), if_neg (by omega)]
  rw [eV, eM, v2]
  constructor
  · intro hz
    have m : M5 1 (97 + k) = nI 0 := by
      rcases b.2.2.2.1 k hk with q | ⟨w, hw, q, -, -⟩
      · exact q.2
      · exact absurd (q.symm.trans (v2.trans hz)) (nx_ne5 (by omega))
    rw [if_pos hz, if_neg (by rw [m]; decide)]
    exact ⟨b, u5⟩
  · intro hz
    rcases b.2.2.2.1 k hk with q | ⟨w, hw, q1, q2, q3⟩
    · exact absurd (v2.symm.trans q.1) hz
    · rw [if_neg hz, if_pos q2, q3, ← v2, q1]
      refine ⟨w, hw, R_offer b hl (by omega) hw (by rw [u5 _ _ (by decide), if_neg (by omega)]; exact ht) (by rw [u5 _ _ (by unfold VW; omega), if_neg (by omega)]; exact hdd) (by rw [u5 _ _ (by unfold VW; omega), if_neg (by omega)]; exact hdr) (by rw [u5 _ _ (by decide), if_neg (by omega)]; exact hle) hb, fun c i hv => ?_⟩
      rw [vw_offer (by omega) hv]
      by_cases z : c = 11 + (k + 1) ∧ i = 6
      · rw [if_pos z, if_pos z]
      · rw [if_neg z, if_neg z, u5 c i hv, if_neg z]
