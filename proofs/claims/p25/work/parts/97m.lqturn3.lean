/-! the turns: run and finish -/
section TURN1
variable {c b : Nat} {F : Nat → Nat → Nat → Int32} {M G : Nat → Nat → Int32}
theorem turn1 (ts : TS c b F M G) (hc : c + 1 < 2 ^ 29) (hb : b ≤ 600000) {w : Nat} (h1w : 1 ≤ w) (h2w : w ≤ 200) : dueOK ((G 0 4) + (nI w)) 5000 G ∧ (C7_run F (nI w)).1 = (CL_due1 G w).1 ∧ Out c b M (C7_run F (nI w)).2 (CL_due1 G w).1 (CL_due1 G w).2 := by
  obtain ⟨wh, lq, phi⟩ := ts
  obtain ⟨-, -, -, eq, wh'⟩ := P_run wh (by omega) (nI w)
  obtain ⟨x, x4, ex⟩ := Wh_cnt wh
  obtain ⟨L, n, p, nS, t, ph, h, i, ht, o⟩ := id wh.1
  obtain ⟨g1, g2, g3, g4⟩ := phi_is h i (by omega)
  have phi0 := phi
  unfold PhiB at phi0
  rw [g1, g2, g3] at phi0
  obtain ⟨M1, hM1⟩ : ∃ z, C8_putAside M = z := ⟨_, rfl⟩
  have m1 : M1 1 = M 1 := by rw [← hM1]; exact fr2 (by decide)
  have m0 : M1 0 = M 0 := by rw [← hM1]; exact fr2 (by decide)
  have ms : ∀ j, j < 719 → M1 2 j = M 1 j := fun j hj => by rw [← hM1]; exact (pa_at M).2 j hj
  have h1 : Rel (F 0) (M1 1) L n p := by rw [m1]; exact h
  have q1 : LQ G (M1 1) := by rw [m1]; exact lq
  have hmu := mu_hi i
  have hlo := mu_lo (V := F 0) (L := L) (nS := nS) (ph := ph)
  have e200 : 200 * (nS + 1) * wtN (F 0) = 40 * (5 * (nS + 1) * wtN (F 0)) := by rw [show 200 * (nS + 1) = 40 * (5 * (nS + 1)) by omega, Nat.mul_assoc]
  obtain ⟨z1, z2, ⟨V', L', n', p', t', ph', R, I, O', y1, y2⟩, -⟩ := loopL (t + w) (by omega) (mu (F 0) L nS ph) (F 0) M1 G L n p nS t c ph rfl h1 i o q1 (by have := mu_le h i; omega) (by omega) 5000 (by have := mu_le h i; omega)
  have eT : G 0 4 + nI w = nI (t + w) := by rw [LQ_q lq (by decide), g4, nI_add]
  obtain ⟨-, -, -, r2, -⟩ := G_run h1 i (nI w) (by omega) (by omega)
  have eM : C8_run M (nI w) = C8_recorded (C8_runs M1 (nI w)).2 (C8_runs M1 (nI w)).1 := by rw [← hM1]; rfl
  have er : C8_runs M1 (nI w) = ((C8_goTo M1 (nI (t + w)) 1 5) - (M1 1 5), C8_goTo M1 (nI (t + w))) := by
    unfold C8_runs
    rw [win1 h1w (by omega) (by decide), if_neg n1n0, show M1 1 4 + nI w = nI (t + w) by rw [m1, g4, nI_add], if_pos ((nI_leI (by omega) (by decide)).mpr (by omega))]
  have ls : lqLS (dueLp (nI (t + w)) 5000 G) (gtoL (nI (t + w)) 5000 M1) 50 := ⟨z2, rn_of R I⟩
  have ls2 := S_up (x := nI (t + w)) ls (c := 0) (i := 4) (j := 4) (by decide) rfl (fun _ => by decide)
  have ed : CL_due1 G w = ((up1 (dueLp (nI (t + w)) 5000 G) 0 4 (nI (t + w)) 0 5) - (G 0 5), up1 (dueLp (nI (t + w)) 5000 G) 0 4 (nI (t + w))) := by
    unfold CL_due1
    try dsimp only
    rw [eT]
  have both : (C8_runs M1 (nI w)).1 = (CL_due1 G w).1 ∧ LQ (CL_due1 G w).2 ((C8_runs M1 (nI w)).2 1) := by
    rw [er, ed]
    refine ⟨?_, ls2.1⟩
    show (C8_goTo M1 (nI (t + w)) 1 5) - (M1 1 5) = (up1 (dueLp (nI (t + w)) 5000 G) 0 4 (nI (t + w)) 0 5) - (G 0 5)
    rw [LQ_q ls2.1 (by decide), LQ_q q1 (by decide)]
    rfl
  obtain ⟨o1, o2, o3⟩ := rec_out (M := M) (X := (C8_runs M1 (nI w)).2) (r := (C8_runs M1 (nI w)).1) (x := x) (by rw [fr_runs (by decide), m0]; exact ex) x4 (fun j hj => by rw [fr_runs (by decide)]; exact ms j hj) (fun z j _ => by rw [(r2 z).2, m1])
  have e9 : (C8_run M (nI w)).1 = (C8_runs M1 (nI w)).1 := by
    rw [eM]
    unfold C8_recorded
    split <;> rfl
  refine ⟨by rw [eT]; exact z1, by rw [eq, e9]; exact both.1, (C8_run M (nI w)).2, Wh_up wh' (by omega), ?_, ?_, ?_, ?_⟩
  · rw [eM, o1]; exact both.2
  · rw [eM, o1, er]
    obtain ⟨f1, f2, f3, -⟩ := phi_is R I (by omega)
    have mm : ∀ j, j ≠ 4 → C8_goTo M1 (nI (t + w)) 1 j = gtoL (nI (t + w)) 5000 M1 1 j := fun j z => up1_in z
    have m4 : C8_goTo M1 (nI (t + w)) 1 4 = nI (t + w) := up1_eq
    have hlo2 := mu_lo (V := V') (L := L') (nS := nS) (ph := ph')
    have e201 : 200 * (nS + 1) * wtN V' = 40 * (5 * (nS + 1) * wtN V') := by rw [show 200 * (nS + 1) = 40 * (5 * (nS + 1)) by omega, Nat.mul_assoc]
    unfold PhiB
    show tN (C8_goTo M1 (nI (t + w)) 1 4) + 200 * (tN (C8_goTo M1 (nI (t + w)) 1 3) + 1) * (tN (C8_goTo M1 (nI (t + w)) 1 11) + tN (C8_goTo M1 (nI (t + w)) 1 12)) ≤ b + 12800
    rw [m4, mm 3 (by decide), mm 11 (by decide), mm 12 (by decide), f2, f3, tN_nI (by omega)]
    omega
  · rw [← both.1, eM]; exact o2
  · rw [← both.1, eM]; exact o3
theorem up1_id (V : Nat → Nat → Int32) (c i : Nat) : up1 V c i (V c i) = V := by
  funext c' j
  rw [up1_at]
  by_cases z : c' = c ∧ j = i
  · obtain ⟨rfl, rfl⟩ := z; rw [if_pos ⟨rfl, rfl⟩]
  · rw [if_neg z]
theorem turn5 (ts : TS c b F M G) (hc : c + 1 < 2 ^ 29) (hb : b ≤ 600000) (w : Nat) : (¬ G 0 10 = 0 → dueOK (nI 1000000) 5000 G) ∧ (C7_finish F).1 = (CL_due5 G w).1 ∧ Out c b M (C7_finish F).2 (CL_due5 G w).1 (CL_due5 G w).2 := by
  obtain ⟨wh, lq, phi⟩ := ts
  obtain ⟨-, -, -, eq, wh', -, -⟩ := P_finish wh (by omega)
  obtain ⟨x, x4, ex⟩ := Wh_cnt wh
  obtain ⟨L, n, p, nS, t, ph, h, i, ht, o⟩ := id wh.1
  obtain ⟨g1, g2, g3, g4⟩ := phi_is h i (by omega)
  have phi0 := phi
  unfold PhiB at phi0
  rw [g1, g2, g3] at phi0
  obtain ⟨M1, hM1⟩ : ∃ z, C8_putAside M = z := ⟨_, rfl⟩
  have m1 : M1 1 = M 1 := by rw [← hM1]; exact fr2 (by decide)
  have m0 : M1 0 = M 0 := by rw [← hM1]; exact fr2 (by decide)
  have ms : ∀ j, j < 719 → M1 2 j = M 1 j := fun j hj => by rw [← hM1]; exact (pa_at M).2 j hj
  have h1 : Rel (F 0) (M1 1) L n p := by rw [m1]; exact h
  have q1 : LQ G (M1 1) := by rw [m1]; exact lq
  have hmu := mu_hi i
  have e200 : 200 * (nS + 1) * wtN (F 0) = 40 * (5 * (nS + 1) * wtN (F 0)) := by rw [show 200 * (nS + 1) = 40 * (5 * (nS + 1)) by omega, Nat.mul_assoc]
  obtain ⟨z1, z2, ⟨V', L', n', p', t', ph', R, I, O', y1, y2⟩, z3⟩ := loopL 1000000 (by decide) (mu (F 0) L nS ph) (F 0) M1 G L n p nS t c ph rfl h1 i o q1 (by have := mu_le h i; omega) (by omega) 5000 (by have := mu_le h i; omega)
  have es := z3 (by omega)
  rw [es] at z2 R
  have eg : C8_finish M = if M 1 10 = 0 then ((-5), M) else (if setL 5000 M1 1 4 ≤ nI 1000000 then (setL 5000 M1 1 4 - M1 1 4, C8_push (setL 5000 M1)) else ((-3), C8_takeBack (setL 5000 M1))) := by rw [← hM1]; rfl
  have ed : CL_due5 G w = if G 0 10 = 0 then ((-5), G) else ((dueLp (nI 1000000) 5000 G 0 4) - (G 0 4), dueLp (nI 1000000) 5000 G) := by
    unfold CL_due5
    try dsimp only
    rw [up1_id]
  have q10 : G 0 10 = M 1 10 := LQ_q lq (by decide)
  refine ⟨fun _ => z1, ?_⟩
  rw [eq]
  rw [eg, ed, q10]
  rw [eg] at wh'
  by_cases z : M 1 10 = 0
  · rw [if_pos z, if_pos z]
    rw [if_pos z] at wh'
    refine ⟨rfl, M, Wh_up wh' (by omega), lq, Nat.le_trans phi (by omega), fun _ _ _ => rfl, fun y => absurd (show (0 : Int32) ≤ -5 from y) (by decide)⟩
  · rw [if_neg z, if_neg z]
    rw [if_neg z] at wh'
    obtain ⟨f1, f2, f3, f4⟩ := phi_is R I (by omega)
    have le6 : setL 5000 M1 1 4 ≤ nI 1000000 := by rw [f4]; exact (nI_leI (by omega) (by decide)).mpr (by omega)
    rw [if_pos le6]
    rw [if_pos le6] at wh'
    have ea : (setL 5000 M1 1 4 - M1 1 4 : Int32) = (dueLp (nI 1000000) 5000 G 0 4) - (G 0 4) := by rw [LQ_q z2 (by decide), LQ_q q1 (by decide)]
    have nn : ¬ ((dueLp (nI 1000000) 5000 G 0 4) - (G 0 4) < 0) := by
      rw [← ea, f4, m1, g4, pk_sub y1]
      exact nI_pos (by omega)
    have hlo2 := mu_lo (V := V') (L := L') (nS := nS) (ph := ph')
    have e201 : 200 * (nS + 1) * wtN V' = 40 * (5 * (nS + 1) * wtN V') := by rw [show 200 * (nS + 1) = 40 * (5 * (nS + 1)) by omega, Nat.mul_assoc]
    have p1 : C8_push (setL 5000 M1) 1 = setL 5000 M1 1 := fr_push (by decide) (by decide)
    refine ⟨ea, C8_push (setL 5000 M1), Wh_up wh' (by omega), by rw [p1]; exact z2, ?_, fun y => absurd y nn, fun _ => und_push (by rw [fr_setL (by decide), m0]; exact ex) x4 (fun j hj => by rw [fr_setL (by decide)]; exact ms j hj) rfl rfl⟩
    rw [p1]
    unfold PhiB
    rw [f1, f2, f3]
    omega
end TURN1
