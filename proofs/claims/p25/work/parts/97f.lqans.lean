/-! an answer arrives; the law's step and the same on the numbers -/
theorem SL_ans0 {G M : Nat → Nat → Int32} {n k a b y : Nat} (h : lqLS G M n) (hn : n ≤ 61) (hk : k < 7) (hp : vp_in (M 1 9) 20) (ea : M 1 11 = nI a) (eb : M 1 12 = nI b) (ha : a ≤ 20) (hb : b ≤ 20) (wa : 0 < a → ∃ w, w < 16 ∧ M 1 109 = nI w) (wb : 0 < b → ∃ w, w < 16 ∧ M 1 129 = nI w) (ey : M 1 2 = nI y) (hy : y ≤ 1) :
    lqLS (if k = 0 then CL_serves (up1 G 3 (3 * k) (nI 1)) else if up1 G 3 (3 * k) (nI 1) 3 (20 + k) < 0 then up1 G 3 (3 * k) (nI 1) else CL_offers (up1 G 3 (3 * k) (nI 1)) k (up1 G 3 (3 * k) (nI 1) 3 (20 + k))) (if k = 0 then C8_letGo (up1 M 1 (76 + k) (nI 1)) else if up1 M 1 (76 + k) (nI 1) 1 ((97 + k) - 1) = nI 1 then C8_offer (up1 M 1 (76 + k) (nI 1)) k (up1 M 1 (76 + k) (nI 1) 1 ((103 + k) - 1)) else up1 M 1 (76 + k) (nI 1)) (n + 2) := by
  have s := S_up (x := nI 1) h (pl_f0 hk).1 (pl_f0 hk).2 (fun z => absurd z (by decide))
  obtain ⟨G2, hG⟩ : ∃ z, up1 G 3 (3 * k) (nI 1) = z := ⟨_, rfl⟩
  obtain ⟨M2, hM⟩ : ∃ z, up1 M 1 (76 + k) (nI 1) = z := ⟨_, rfl⟩
  have m2 : ∀ j, j ≠ 76 + k → M2 1 j = M 1 j := fun j z => by rw [← hM, up1_in z]
  rw [hG, hM] at s
  rw [hG, hM]
  by_cases z : k = 0
  · rw [if_pos z, if_pos z]
    exact S_serve s hn (by rw [m2 9 (by omega)]; exact hp) (by rw [m2 11 (by omega)]; exact ea) (by rw [m2 12 (by omega)]; exact eb) ha hb (by rw [m2 109 (by omega)]; exact wa) (by rw [m2 129 (by omega)]; exact wb) (by rw [m2 2 (by omega)]; exact ey) hy
  · rw [if_neg z, if_neg z]
    have hh := s.1.2.1 (k - 1) (by omega)
    rw [show 21 + (k - 1) = 20 + k by omega, show 97 + (k - 1) = (97 + k) - 1 by omega, show 103 + (k - 1) = (103 + k) - 1 by omega] at hh
    rcases hh with ⟨e1, e2⟩ | ⟨w, w1, e1, e2, e3⟩
    · rw [if_pos (show G2 3 (20 + k) < 0 by rw [e1]; decide), if_neg (show ¬ M2 1 ((97 + k) - 1) = nI 1 by rw [e2]; decide)]
      exact ⟨s.1, vp_mono s.2.1 (by omega), s.2.2⟩
    · rw [if_neg (show ¬ G2 3 (20 + k) < 0 by rw [e1]; exact nI_pos (by omega)), if_pos e2, e1, e3]
      exact S_offer s (by omega) hk w1
theorem SL_ans1 {G M : Nat → Nat → Int32} {n k : Nat} (h : lqLS G M n) (hn : n ≤ 61) (hk : k < 7) (hw : ∀ j, j < 7 → ∃ w, w < 32 ∧ M 1 ((34 + (6 * j)) + 5) = nI w) :
    lqLS (if k = 0 then CL_makes (up1 G 2 (6 * k) (nI 0)) k 0 (nI 0) (nI 0) else if up1 (CL_makes (up1 G 2 (6 * k) (nI 0)) k 0 (nI 0) (nI 0)) 3 (20 + k) (-1) 3 ((3 * k) - 2) = nI 1 then CL_takes (up1 (up1 (CL_makes (up1 G 2 (6 * k) (nI 0)) k 0 (nI 0) (nI 0)) 3 (20 + k) (-1)) 3 ((3 * k) - 2) (nI 0)) (k - 1) else up1 (CL_makes (up1 G 2 (6 * k) (nI 0)) k 0 (nI 0) (nI 0)) 3 (20 + k) (-1))
      (if k = 0 then C8_make (C8_setEnd M k 0 (nI 0)) k 0 (nI 0) (nI 0) else if up1 (C8_make (C8_setEnd M k 0 (nI 0)) k 0 (nI 0) (nI 0)) 1 ((97 + k) - 1) (nI 0) 1 ((83 + k) - 1) = nI 1 then C8_take (up1 (up1 (C8_make (C8_setEnd M k 0 (nI 0)) k 0 (nI 0) (nI 0)) 1 ((97 + k) - 1) (nI 0)) 1 ((83 + k) - 1) (nI 0)) (k - 1) else up1 (C8_make (C8_setEnd M k 0 (nI 0)) k 0 (nI 0) (nI 0)) 1 ((97 + k) - 1) (nI 0)) (n + 4) := by
  have s0 := S_end0 (x := nI 0) h hk
  have s := S_make (w := 0) (v := 0) (x := nI 0) s0 (by omega) hk (by decide) (by decide)
  have mw : ∀ j, j < 319 → j ≠ 10 → j ≠ (34 + (6 * k)) + 0 → C8_make (C8_setEnd M k 0 (nI 0)) k 0 (nI 0) (nI 0) 1 j = M 1 j := fun j z z2 z3 => by
    rw [(m8_10 (vp_mono s0.2.1 (by omega))).2.1 j z2 z]
    exact up1_in z3
  obtain ⟨G2, hG⟩ : ∃ z, CL_makes (up1 G 2 (6 * k) (nI 0)) k 0 (nI 0) (nI 0) = z := ⟨_, rfl⟩
  obtain ⟨M2, hM⟩ : ∃ z, C8_make (C8_setEnd M k 0 (nI 0)) k 0 (nI 0) (nI 0) = z := ⟨_, rfl⟩
  rw [hM] at mw
  rw [hG, hM] at s
  rw [hG, hM]
  by_cases z : k = 0
  · rw [if_pos z, if_pos z]
    exact ⟨s.1, vp_mono s.2.1 (by omega), s.2.2⟩
  · rw [if_neg z, if_neg z]
    have t := S_empty s (s := k - 1) (by omega)
    rw [show 21 + (k - 1) = 20 + k by omega, show 97 + (k - 1) = (97 + k) - 1 by omega] at t
    obtain ⟨G3, hG3⟩ : ∃ z, up1 G2 3 (20 + k) (-1) = z := ⟨_, rfl⟩
    obtain ⟨M3, hM3⟩ : ∃ z, up1 M2 1 ((97 + k) - 1) (nI 0) = z := ⟨_, rfl⟩
    have m3 : ∀ j, j ≠ (97 + k) - 1 → M3 1 j = M2 1 j := fun j y => by rw [← hM3, up1_in y]
    rw [hG3, hM3] at t
    rw [hG3, hM3]
    have f1 := S_f1 t (k := k - 1) (by omega)
    rw [show 3 * (k - 1) + 1 = (3 * k) - 2 by omega, show 83 + (k - 1) = (83 + k) - 1 by omega] at f1
    rw [f1]
    by_cases y : M3 1 ((83 + k) - 1) = nI 1
    · rw [if_pos y, if_pos y]
      have p1 := pl_f1 (k := k - 1) (by omega)
      rw [show 3 * (k - 1) + 1 = (3 * k) - 2 by omega, show 83 + (k - 1) = (83 + k) - 1 by omega] at p1
      have u := S_up (x := nI 0) t p1.1 p1.2 (fun z => absurd z (by decide))
      obtain ⟨w, w1, w2⟩ := hw (k - 1) (by omega)
      exact SL_take u (by omega) (by omega) w1 (by rw [up1_in (by omega), m3 _ (by omega), mw _ (by omega) (by omega) (by omega)]; exact w2)
    · rw [if_neg y, if_neg y]
      exact ⟨t.1, vp_mono t.2.1 (by omega), t.2.2⟩
theorem answered_eq (G : Nat → Nat → Int32) (k : Nat) (v : Int32) : CL_answered G k v = if v = 0 then (if k = 0 then CL_serves (up1 G 3 (3 * k) (nI 1)) else if up1 G 3 (3 * k) (nI 1) 3 (20 + k) < 0 then up1 G 3 (3 * k) (nI 1) else CL_offers (up1 G 3 (3 * k) (nI 1)) k (up1 G 3 (3 * k) (nI 1) 3 (20 + k))) else (if k = 0 then CL_makes (up1 G 2 (6 * k) (nI 0)) k 0 (nI 0) (nI 0) else if up1 (CL_makes (up1 G 2 (6 * k) (nI 0)) k 0 (nI 0) (nI 0)) 3 (20 + k) (-1) 3 ((3 * k) - 2) = nI 1 then CL_takes (up1 (up1 (CL_makes (up1 G 2 (6 * k) (nI 0)) k 0 (nI 0) (nI 0)) 3 (20 + k) (-1)) 3 ((3 * k) - 2) (nI 0)) (k - 1) else up1 (CL_makes (up1 G 2 (6 * k) (nI 0)) k 0 (nI 0) (nI 0)) 3 (20 + k) (-1)) := rfl
theorem ansArr_eq (M : Nat → Nat → Int32) (k : Nat) (v : Int32) : C8_answerArrives M k v = if v = nI 1 then (if k = 0 then C8_make (C8_setEnd (C8_setEnd M k 3 v) k 0 (nI 0)) k 0 (nI 0) (nI 0) else if up1 (C8_make (C8_setEnd (C8_setEnd M k 3 v) k 0 (nI 0)) k 0 (nI 0) (nI 0)) 1 ((97 + k) - 1) (nI 0) 1 ((83 + k) - 1) = nI 1 then C8_take (up1 (up1 (C8_make (C8_setEnd (C8_setEnd M k 3 v) k 0 (nI 0)) k 0 (nI 0) (nI 0)) 1 ((97 + k) - 1) (nI 0)) 1 ((83 + k) - 1) (nI 0)) (k - 1) else up1 (C8_make (C8_setEnd (C8_setEnd M k 3 v) k 0 (nI 0)) k 0 (nI 0) (nI 0)) 1 ((97 + k) - 1) (nI 0)) else (if k = 0 then C8_letGo (up1 (C8_setEnd M k 3 v) 1 (76 + k) (nI 1)) else if up1 (C8_setEnd M k 3 v) 1 (76 + k) (nI 1) 1 ((97 + k) - 1) = nI 1 then C8_offer (up1 (C8_setEnd M k 3 v) 1 (76 + k) (nI 1)) k (up1 (C8_setEnd M k 3 v) 1 (76 + k) (nI 1) 1 ((103 + k) - 1)) else up1 (C8_setEnd M k 3 v) 1 (76 + k) (nI 1)) := rfl
/-- what a step needs of the numbers, that the class's line gives -/
def Nd (m : Nat → Int32) : Prop := vp_in (m 9) 20 ∧ (∃ a, a ≤ 20 ∧ m 11 = nI a ∧ (0 < a → ∃ w, w < 16 ∧ m 109 = nI w)) ∧ (∃ b, b ≤ 20 ∧ m 12 = nI b ∧ (0 < b → ∃ w, w < 16 ∧ m 129 = nI w)) ∧ (∃ y, y ≤ 1 ∧ m 2 = nI y) ∧ ∀ j, j < 7 → ∃ w, w < 32 ∧ m ((34 + (6 * j)) + 5) = nI w
theorem S_answered {G M M1 : Nat → Nat → Int32} {n k v : Nat} (eM : C8_setEnd M k 3 (nI v) = M1) (h : lqLS G M1 n) (hn : n ≤ 61) (hk : k < 7) (hv : v ≤ 1) (nd : Nd (M1 1)) : lqLS (CL_answered G k (nI v)) (C8_answerArrives M k (nI v)) (n + 4) := by
  obtain ⟨hp, ⟨a, ha, ea, wa⟩, ⟨b, hb, eb, wb⟩, ⟨y, hy, ey⟩, hw⟩ := nd
  rw [answered_eq, ansArr_eq, eM]
  rcases (show v = 0 ∨ v = 1 by omega) with rfl | rfl
  · rw [if_pos (show nI 0 = 0 from rfl), if_neg (show ¬ nI 0 = nI 1 by decide)]
    have q := SL_ans0 h hn hk hp ea eb ha hb wa wb ey hy
    exact ⟨q.1, vp_mono q.2.1 (by omega), q.2.2⟩
  · rw [if_neg (show ¬ nI 1 = 0 by decide), if_pos (show nI 1 = nI 1 from rfl)]
    exact SL_ans1 h hn hk hw
