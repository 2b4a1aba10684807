/-! a stage takes a word, or has none; the law's step and the same on the numbers -/
theorem S_held {G M : Nat → Nat → Int32} {n s w : Nat} (h : lqLS G M n) (hs : s < 6) (hw : w < 32) : lqLS (up1 G 3 (21 + s) (nI w)) (up1 (up1 M 1 (97 + s) (nI 1)) 1 (103 + s) (nI w)) n := by
  obtain ⟨⟨h1, h2, h3, h4, h5, h6⟩, r⟩ := h
  have m' : ∀ j, j ≠ 97 + s → j ≠ 103 + s → up1 (up1 M 1 (97 + s) (nI 1)) 1 (103 + s) (nI w) 1 j = M 1 j := fun j a b => by rw [up1_in b, up1_in a]
  have gc : ∀ c, c ≠ 3 → up1 G 3 (21 + s) (nI w) c = G c := fun c z => setC_ne z
  have g3 : ∀ i, i ≠ 21 + s → up1 G 3 (21 + s) (nI w) 3 i = G 3 i := fun i z => up1_in z
  refine ⟨⟨?_, ?_, LRw_of h3 (gc 4 (by decide)) (m' 11 (by omega) (by omega)) (m' 12 (by omega) (by omega)) (fun j a b => m' j (by omega) (by omega)) r.2.2.2.1 r.2.2.2.2, LPn_of h4 (gc 5 (by decide)) (m' 9 (by omega) (by omega)) (fun j a b => m' j (by omega) (by omega)) r.2.2.1, LCh_of h5 (gc 6 (by decide)) (gc 7 (by decide)) (m' 10 (by omega) (by omega)) (fun j a => m' j (by omega) (by omega)), LNt_of h6 (gc 8 (by decide)) (m' 5 (by omega) (by omega)) (fun j a b => m' j (by omega) (by omega))⟩, Rn_of r (fun j hj => m' j (by omega) (by omega))⟩
  · refine EL_m (EL_G h1 (fun c i hd => ?_)) (fun j hj => m' j (by omega) (by omega))
    by_cases z : c = 3
    · subst z; exact g3 i (by unfold DL at hd; omega)
    · rw [gc c z]
  · intro k hk
    by_cases z : k = s
    · subst z
      exact Or.inr ⟨w, hw, up1_eq, by rw [up1_in (by omega), up1_eq], up1_eq⟩
    · rw [g3 _ (by omega), m' _ (by omega) (by omega), m' _ (by omega) (by omega)]
      exact h2 k hk
theorem S_empty {G M : Nat → Nat → Int32} {n s : Nat} (h : lqLS G M n) (hs : s < 6) : lqLS (up1 G 3 (21 + s) (-1)) (up1 M 1 (97 + s) (nI 0)) n := by
  obtain ⟨⟨h1, h2, h3, h4, h5, h6⟩, r⟩ := h
  have m' : ∀ j, j ≠ 97 + s → up1 M 1 (97 + s) (nI 0) 1 j = M 1 j := fun j a => up1_in a
  have gc : ∀ c, c ≠ 3 → up1 G 3 (21 + s) (-1) c = G c := fun c z => setC_ne z
  have g3 : ∀ i, i ≠ 21 + s → up1 G 3 (21 + s) (-1) 3 i = G 3 i := fun i z => up1_in z
  refine ⟨⟨?_, ?_, LRw_of h3 (gc 4 (by decide)) (m' 11 (by omega)) (m' 12 (by omega)) (fun j a b => m' j (by omega)) r.2.2.2.1 r.2.2.2.2, LPn_of h4 (gc 5 (by decide)) (m' 9 (by omega)) (fun j a b => m' j (by omega)) r.2.2.1, LCh_of h5 (gc 6 (by decide)) (gc 7 (by decide)) (m' 10 (by omega)) (fun j a => m' j (by omega)), LNt_of h6 (gc 8 (by decide)) (m' 5 (by omega)) (fun j a b => m' j (by omega))⟩, Rn_of r (fun j hj => m' j (by omega))⟩
  · refine EL_m (EL_G h1 (fun c i hd => ?_)) (fun j hj => m' j (by omega))
    by_cases z : c = 3
    · subst z; exact g3 i (by unfold DL at hd; omega)
    · rw [gc c z]
  · intro k hk
    by_cases z : k = s
    · subst z
      exact Or.inl ⟨up1_eq, up1_eq⟩
    · rw [g3 _ (by omega), m' _ (by omega), m' _ (by omega)]
      exact h2 k hk
theorem S_f0 {G M : Nat → Nat → Int32} {n k : Nat} (h : lqLS G M n) (hk : k < 7) : G 3 (3 * k) = M 1 (76 + k) := by
  have q := h.1.1 3 (3 * k) (pl_f0 hk).1
  rw [(pl_f0 hk).2] at q
  exact q
theorem S_f1 {G M : Nat → Nat → Int32} {n k : Nat} (h : lqLS G M n) (hk : k < 7) : G 3 ((3 * k) + 1) = M 1 (83 + k) := by
  have q := h.1.1 3 ((3 * k) + 1) (pl_f1 hk).1
  rw [(pl_f1 hk).2] at q
  exact q
theorem SL_take {G M : Nat → Nat → Int32} {n s w : Nat} (h : lqLS G M n) (hn : n ≤ 62) (hs : s < 6) (hw : w < 32) (em : M 1 ((34 + (6 * s)) + 5) = nI w) : lqLS (CL_takes G s) (C8_take M s) (n + 3) := by
  have e : G 2 ((6 * s) + 5) = nI w := by rw [LQ_e h.1 (by omega) (by decide) (show pe6 5 = 5 from rfl)]; exact em
  have c := S_make (w := 1) (v := 1) (x := nI 0) (S_end (f := 4) (x := nI 1) (S_held h hs hw) (show s < 7 by omega) (by decide) (show pe6 4 = 2 from rfl)) (by omega) (show s < 7 by omega) (by decide) (by decide)
  obtain ⟨G3, hG3⟩ : ∃ z, CL_makes (up1 (up1 G 3 (21 + s) (nI w)) 2 ((6 * s) + 4) (nI 1)) s 1 (nI 1) (nI 0) = z := ⟨_, rfl⟩
  obtain ⟨M3, hM3⟩ : ∃ z, C8_make (C8_setEnd (up1 (up1 M 1 (97 + s) (nI 1)) 1 (103 + s) (nI w)) s 2 (nI 1)) s 1 (nI 1) (nI 0) = z := ⟨_, rfl⟩
  rw [hG3, hM3] at c
  have gw : G3 3 (21 + s) = nI w := by rw [← hG3, mk_ne (by decide) (by decide) (by omega), lup_ne (by omega), up1_eq]
  have r2 := (S_end (f := 4) (x := nI 1) (S_held h hs hw) (show s < 7 by omega) (by decide) (show pe6 4 = 2 from rfl)).2.1
  have mw : M3 1 (103 + s) = nI w := by
    rw [← hM3, (m8_10 (vp_mono r2 (by omega))).2.1 _ (by omega) (by omega)]
    show up1 _ 1 _ _ 1 _ = _
    rw [up1_in (by omega), up1_eq]
  have f1 := S_f0 c (k := s + 1) (by omega)
  have e5 : C8_end (up1 M 1 (97 + s) (nI 1)) s 5 = nI w := by
    unfold C8_end
    rw [up1_in (by omega)]; exact em
  have eG : CL_takes G s = if G3 3 ((3 * s) + 3) = nI 1 then CL_offers G3 (s + 1) (G3 3 (21 + s)) else G3 := by
    unfold CL_takes
    try dsimp only
    rw [e, hG3]
  have eM : C8_take M s = if M3 1 ((76 + s) + 1) = nI 1 then C8_offer M3 (s + 1) (M3 1 (103 + s)) else M3 := by
    unfold C8_take C8_answer
    try dsimp only
    rw [e5, hM3]
  rw [eG, eM, show (3 * s) + 3 = 3 * (s + 1) by omega, f1, show (76 + s) + 1 = 76 + (s + 1) by omega, gw, mw]
  by_cases z : M3 1 (76 + (s + 1)) = nI 1
  · rw [if_pos z, if_pos z]
    exact S_offer c (by omega) (by omega) hw
  · rw [if_neg z, if_neg z]
    exact ⟨c.1, vp_mono c.2.1 (by omega), c.2.2⟩
