/-! the turns: setDelay, set, build -/
section TURN2
variable {c b : Nat} {F : Nat → Nat → Nat → Int32} {M G : Nat → Nat → Int32}
theorem turn2 (ts : TS c b F M G) {a w v : Nat} (ha : a ≤ tN (G 0 3)) (hw : w < 3) (h1v : 1 ≤ v) (h2v : v ≤ 20) : (C7_setDelay F (nI a) (nI w) (nI v)).1 = (CL_due2 G a w v).1 ∧ Out c b M (C7_setDelay F (nI a) (nI w) (nI v)).2 (CL_due2 G a w v).1 (CL_due2 G a w v).2 := by
  obtain ⟨wh, lq, phi⟩ := ts
  obtain ⟨-, eq, wh'⟩ := P_del wh (nI a) (nI w) (nI v)
  obtain ⟨x, x4, ex⟩ := Wh_cnt wh
  obtain ⟨L, n, p, nS, t, ph, h, i, ht, o⟩ := id wh.1
  have n6 := i.1.2.1
  have e3 := R_n3 h i
  rw [LQ_q lq (by decide), e3, tN_nI (by omega)] at ha
  obtain ⟨M1, hM1⟩ : ∃ z, C8_putAside M = z := ⟨_, rfl⟩
  have m1 : M1 1 = M 1 := by rw [← hM1]; exact fr2 (by decide)
  have m0 : M1 0 = M 0 := by rw [← hM1]; exact fr2 (by decide)
  have ms : ∀ j, j < 719 → M1 2 j = M 1 j := fun j hj => by rw [← hM1]; exact (pa_at M).2 j hj
  have eM : C8_setDelay M (nI a) (nI w) (nI v) = C8_recorded (C8_setsDelay M1 (nI a) (nI w) (nI v)).2 (C8_setsDelay M1 (nI a) (nI w) (nI v)).1 := by rw [← hM1]; rfl
  have k7 : a < 7 := by omega
  have es : C8_setsDelay M1 (nI a) (nI w) (nI v) = if M 1 ((13 + (3 * a)) + w) = nI v then ((-5), up1 M1 1 ((13 + (3 * a)) + w) (nI v)) else (M 1 ((13 + (3 * a)) + w), up1 M1 1 ((13 + (3 * a)) + w) (nI v)) := by
    unfold C8_setsDelay C8_isLink C8_isWire
    rw [m1, e3, win1 (Nat.zero_le a) ha (by omega), if_neg n1n0, win1 (Nat.zero_le w) (by omega) (by decide), if_neg n1n0, win1 h1v h2v (by decide), if_neg n1n0]
    try dsimp only
    rw [tN_nI (show a < 2 ^ 31 by omega), tN_nI (show w < 2 ^ 31 by omega)]
  have qd : G 1 ((3 * a) + w) = M 1 ((13 + (3 * a)) + w) := LQ_d lq k7 hw
  have ed : CL_due2 G a w v = if M 1 ((13 + (3 * a)) + w) = nI v then ((-5), up1 G 1 ((3 * a) + w) (nI v)) else (M 1 ((13 + (3 * a)) + w), up1 G 1 ((3 * a) + w) (nI v)) := by
    unfold CL_due2
    try dsimp only
    rw [qd]
  have lqs : lqLS G M1 50 := ⟨by rw [m1]; exact lq, by rw [m1]; exact rn_of h i⟩
  have s := S_up (x := nI v) lqs (c := 1) (i := (3 * a) + w) (j := (13 + (3 * a)) + w) (by unfold DL; omega) (show 13 + ((3 * a) + w) = _ by omega) (fun z => absurd z (by decide))
  have s2 : (C8_setsDelay M1 (nI a) (nI w) (nI v)).2 = up1 M1 1 ((13 + (3 * a)) + w) (nI v) := by rw [es]; split <;> rfl
  have s1 : (C8_setsDelay M1 (nI a) (nI w) (nI v)).1 = (CL_due2 G a w v).1 := by rw [es, ed]; split <;> rfl
  have sG : (CL_due2 G a w v).2 = up1 G 1 ((3 * a) + w) (nI v) := by rw [ed]; split <;> rfl
  obtain ⟨dd, d1, d2, d3⟩ := i.1.2.2.2.2.2.2.1 a k7 w hw
  have dM : M 1 ((13 + (3 * a)) + w) = nI dd := by rw [← R_d h k7 hw]; exact d3
  have neg : (C8_setsDelay M1 (nI a) (nI w) (nI v)).1 < 0 → M 1 ((13 + (3 * a)) + w) = nI v := fun z => by
    rw [es] at z
    by_cases y : M 1 ((13 + (3 * a)) + w) = nI v
    · exact y
    · rw [if_neg y] at z
      rw [dM] at z
      exact absurd z (nI_pos (by omega))
  obtain ⟨o1, o2, o3⟩ := rec_out (M := M) (X := (C8_setsDelay M1 (nI a) (nI w) (nI v)).2) (r := (C8_setsDelay M1 (nI a) (nI w) (nI v)).1) (x := x) (by rw [fr_setsDelay (by decide), m0]; exact ex) x4 (fun j hj => by rw [fr_setsDelay (by decide)]; exact ms j hj) (fun z j _ => by
    have y := neg z
    rw [s2, ← y, ← m1, up1_id])
  have e9 : (C8_setDelay M (nI a) (nI w) (nI v)).1 = (C8_setsDelay M1 (nI a) (nI w) (nI v)).1 := by
    rw [eM]
    unfold C8_recorded
    split <;> rfl
  refine ⟨by rw [eq, e9]; exact s1, (C8_setDelay M (nI a) (nI w) (nI v)).2, Wh_up wh' (by omega), ?_, ?_, ?_, ?_⟩
  · rw [eM, o1, s2, sG]; exact s.1
  · rw [eM, o1, s2]
    refine Nat.le_trans (?_ : _ ≤ b) (by omega)
    have mm : ∀ j, j < 13 → up1 M1 1 ((13 + (3 * a)) + w) (nI v) 1 j = M 1 j := fun j hj => by rw [up1_in (by omega), m1]
    rw [mm 4 (by decide), mm 3 (by decide), mm 11 (by decide), mm 12 (by decide)]
    exact phi
  · rw [← s1, eM]; exact o2
  · rw [← s1, eM]; exact o3
theorem rec_1 (M : Nat → Nat → Int32) : C8_record M = C8_push (C8_putAside M) := rfl
theorem turn3 (ts : TS c b F M G) {a w : Nat} (v : Nat) (ha : a < 3) (hw : w ≤ 20) (h2 : a = 2 → w ≤ 1) : (C7_set F (nI a) (nI w)).1 = (CL_due3 G a w v).1 ∧ Out c b M (C7_set F (nI a) (nI w)).2 (CL_due3 G a w v).1 (CL_due3 G a w v).2 := by
  obtain ⟨wh, lq, phi⟩ := ts
  obtain ⟨-, eq, wh'⟩ := P_set wh (nI a) (nI w)
  obtain ⟨x, x4, ex⟩ := Wh_cnt wh
  obtain ⟨L, n, p, nS, t, ph, h, i, ht, o⟩ := id wh.1
  have qa : G 0 a = M 1 a := LQ_q lq (by omega)
  have eM : C8_set M (nI a) (nI w) = if M 1 a = nI w then ((-5), M) else (M 1 a, up1 (C8_record M) 1 a (nI w)) := by
    unfold C8_set
    rw [win1 (Nat.zero_le a) (by omega) (by decide), if_neg n1n0]
    by_cases z : a = 2
    · subst z
      rw [if_pos rfl, win1 (Nat.zero_le w) (h2 rfl) (by decide), if_neg n1n0]
      try dsimp only
      rw [tN_nI (by decide)]
    · rw [if_neg (fun y => z ((nI_eq (by omega) (by decide)).mp y)), win1 (Nat.zero_le w) hw (by decide), if_neg n1n0]
      try dsimp only
      rw [tN_nI (by omega)]
  have ed : CL_due3 G a w v = if M 1 a = nI w then ((-5), up1 G 0 a (nI w)) else (M 1 a, up1 G 0 a (nI w)) := by
    unfold CL_due3
    try dsimp only
    rw [qa]
  rw [eq]
  rw [eM] at wh' ⊢
  rw [ed]
  by_cases z : M 1 a = nI w
  · rw [if_pos z] at wh' ⊢
    rw [if_pos z]
    refine ⟨rfl, M, Wh_up wh' (by omega), ?_, Nat.le_trans phi (by omega), fun _ _ _ => rfl, fun y => absurd (show (0 : Int32) ≤ -5 from y) (by decide)⟩
    rw [← z, ← qa, up1_id]
    exact lq
  · rw [if_neg z] at wh' ⊢
    rw [if_neg z]
    have r1 : C8_record M 1 = M 1 := rec1 M
    have lqs : lqLS G (C8_record M) 50 := ⟨by rw [r1]; exact lq, by rw [r1]; exact rn_of h i⟩
    have s := S_up (x := nI w) lqs (c := 0) (i := a) (j := a) (Or.inl ⟨rfl, by omega⟩) rfl (fun _ => by omega)
    obtain ⟨y, hy, ey⟩ : ∃ y, y < 2 ^ 31 ∧ M 1 a = nI y := by
      have R := R_eq h (show DM 1 a by unfold DM; omega)
      obtain ⟨le, l1, l2⟩ := i.1.2.2.2.2.1
      obtain ⟨th, t1, t2⟩ := i.1.2.2.2.2.2.1
      obtain ⟨tu, u1, u2⟩ := o.2
      rcases (show a = 0 ∨ a = 1 ∨ a = 2 by omega) with z | z | z
      · subst z; exact ⟨le, by omega, R.symm.trans l2⟩
      · subst z; exact ⟨th, by omega, R.symm.trans t2⟩
      · subst z; exact ⟨tu, by omega, R.symm.trans u2⟩
    have e3 : up1 (C8_record M) 1 a (nI w) 3 = C8_push (C8_putAside M) 3 := setC_ne (by decide)
    have e0 : up1 (C8_record M) 1 a (nI w) 0 0 = C8_push (C8_putAside M) 0 0 := by rw [lup_ne (by omega)]; rfl
    refine ⟨rfl, up1 (C8_record M) 1 a (nI w), Wh_up wh' (by omega), s.1, ?_, fun q => absurd q (by rw [ey]; exact nI_pos hy), fun _ => und_push (by rw [fr2 (by decide)]; exact ex) x4 (pa_at M).2 e3 e0⟩
    refine Nat.le_trans (?_ : _ ≤ b) (by omega)
    have mm : ∀ j, 3 ≤ j → up1 (C8_record M) 1 a (nI w) 1 j = M 1 j := fun j hj => by rw [up1_in (by omega), r1]
    rw [mm 4 (by decide), mm 3 (by decide), mm 11 (by decide), mm 12 (by decide)]
    exact phi
theorem turn4 (ts : TS c b F M G) {a : Nat} (w v : Nat) (h1a : 1 ≤ a) (h2a : a ≤ 6) : (C7_build F (nI a)).1 = (CL_due4 G a w v).1 ∧ Out c b M (C7_build F (nI a)).2 (CL_due4 G a w v).1 (CL_due4 G a w v).2 := by
  obtain ⟨wh, lq, phi⟩ := ts
  obtain ⟨-, eq, wh'⟩ := P_build wh (nI a)
  obtain ⟨x, x4, ex⟩ := Wh_cnt wh
  obtain ⟨L, n, p, nS, t, ph, h, i, ht, o⟩ := id wh.1
  have r1 : C8_record M 1 = M 1 := rec1 M
  have eM : C8_build M (nI a) = (((M 1 11) + (M 1 12)) + C8_fullStages (C8_record M), C8_clean (C8_record M) (nI a)) := by
    unfold C8_build
    rw [win1 h1a h2a (by decide), if_neg n1n0]
    try dsimp only
    rw [r1]
  have hf : C8_fullStages (C8_record M) = CL_fullOnes G := by
    have q := (Q_full (M := C8_record M) (by rw [r1]; exact h) i).1
    rw [← q]
    have s := (so_T h i o lq).2.2.2.1
    rw [← s]
    rfl
  have ed : CL_due4 G a w v = (((M 1 11) + (M 1 12)) + CL_fullOnes G, CL_builds G a) := by
    unfold CL_due4
    try dsimp only
    rw [LQ_q lq (by decide), LQ_q lq (by decide)]
  rw [eq]
  rw [eM] at wh' ⊢
  rw [ed, hf]
  obtain ⟨a1, b1, a2, -⟩ := h.2.2.2.2.1 0 (by decide)
  obtain ⟨d1, c1, d2, -⟩ := h.2.2.2.2.1 1 (by decide)
  have e11 : M 1 11 = nI a1 := (R_eq h (c := 27) (i := 0) (by decide)).symm.trans a2
  have e12 : M 1 12 = nI d1 := (R_eq h (c := 28) (i := 0) (by decide)).symm.trans d2
  have nn : ¬ ((M 1 11 + M 1 12) + CL_fullOnes G < 0) := by
    unfold CL_fullOnes
    have := foF_le (G 3) (tN (G 0 3)) 0
    have q3 : tN (G 0 3) = nS := by rw [LQ_q lq (by decide), R_n3 h i]; exact tN_nI (by have := i.1.2.1; omega)
    have n6 := i.1.2.1
    rw [e11, e12, nI_add, nI_add]
    exact nI_pos (by omega)
  have e3 : C8_clean (C8_record M) (nI a) 3 = C8_push (C8_putAside M) 3 := cln_c _ _ (by decide)
  have e0 : C8_clean (C8_record M) (nI a) 0 0 = C8_push (C8_putAside M) 0 0 := by rw [cln_c _ _ (by decide)]; rfl
  refine ⟨rfl, C8_clean (C8_record M) (nI a), Wh_up wh' (by omega), LQ_builds (fun j hj => by rw [r1]; exact LQ_q lq (by omega)), ?_, fun q => absurd q nn, fun _ => und_push (by rw [fr2 (by decide)]; exact ex) x4 (pa_at M).2 e3 e0⟩
  obtain ⟨r3, r4, -, -, -, -, -, r11, r12, -⟩ := cln_rest (C8_record M) (nI a)
  unfold PhiB
  rw [r4, r11, r12, tN_nI (by decide)]
  omega
end TURN2
