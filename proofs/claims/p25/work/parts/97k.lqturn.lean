/-! one turn of the law: the class, the numbers and the law's rows go on together -/
theorem LQ_m {G : Nat → Nat → Int32} {m m' : Nat → Int32} (h : LQ G m) (r : Rn m 60) (e : ∀ j, j < 719 → m' j = m j) : LQ G m' := by
  obtain ⟨h1, h2, h3, h4, h5, h6⟩ := h
  have b := inL r.1
  refine ⟨EL_m h1 (fun j hj => e j (by omega)), LHd_of h2 (fun _ _ => rfl) (fun j x y => e j (by omega)), LRw_of h3 rfl (e 11 (by decide)) (e 12 (by decide)) (fun j x y => e j (by omega)) r.2.2.2.1 r.2.2.2.2, LPn_of h4 rfl (e 9 (by decide)) (fun j x y => e j (by omega)) r.2.2.1, fun j hj => ?_, LNt_of h6 rfl (e 5 (by decide)) (fun j x y => e j (by omega))⟩
  rw [e 10 (by decide)] at hj
  rw [e _ (by omega), e _ (by omega), e _ (by omega), e _ (by omega)]
  exact h5 j hj
def PhiB (b : Nat) (m : Nat → Int32) : Prop := tN (m 4) + 200 * (tN (m 3) + 1) * (tN (m 11) + tN (m 12)) ≤ b
theorem Phi_m {b : Nat} {m m' : Nat → Int32} (h : PhiB b m) (e : ∀ j, j < 719 → m' j = m j) : PhiB b m' := by
  unfold PhiB
  rw [e 4 (by decide), e 3 (by decide), e 11 (by decide), e 12 (by decide)]
  exact h
def TS (c b : Nat) (F : Nat → Nat → Nat → Int32) (M G : Nat → Nat → Int32) : Prop := Wh c F M ∧ LQ G (M 1) ∧ PhiB b (M 1)
def Und (M : Nat → Nat → Int32) (m : Nat → Int32) : Prop := 0 ≤ (C8_undo M).1 ∧ ∀ j, j < 719 → (C8_undo M).2 1 j = m j
/-- what was pushed comes back -/
theorem und_of {M' : Nat → Nat → Int32} {m s n3 : Nat → Int32} {y : Nat} (hy : y < 4) (e0 : M' 0 0 = nI (y + 1)) (e3 : M' 3 = ptN n3 (y * 719) s 719) (es : ∀ j, j < 719 → s j = m j) : Und M' m := by
  have ne : ¬ M' 0 0 = 0 := by rw [e0, nI_eq0 (by omega)]; omega
  have t : tN (M' 0 0) = y + 1 := by rw [e0]; exact tN_nI (by omega)
  have e1 : C8_undo M' = ((setC (up1 M' 0 0 ((M' 0 0) - (nI 1))) 1 (gtN (up1 M' 0 0 ((M' 0 0) - (nI 1)) 1) (up1 M' 0 0 ((M' 0 0) - (nI 1)) 3) ((tN (M' 0 0) - 1) * 719) 719)) 0 0, setC (up1 M' 0 0 ((M' 0 0) - (nI 1))) 1 (gtN (up1 M' 0 0 ((M' 0 0) - (nI 1)) 1) (up1 M' 0 0 ((M' 0 0) - (nI 1)) 3) ((tN (M' 0 0) - 1) * 719) 719)) := by
    unfold C8_undo
    rw [if_neg ne]
  rw [Und, e1]
  refine ⟨?_, fun j hj => ?_⟩
  · show 0 ≤ setC (up1 M' 0 0 ((M' 0 0) - (nI 1))) 1 (gtN (up1 M' 0 0 ((M' 0 0) - (nI 1)) 1) (up1 M' 0 0 ((M' 0 0) - (nI 1)) 3) ((tN (M' 0 0) - 1) * 719) 719) 0 0
    rw [setC_ne (show (0 : Nat) ≠ 1 by decide), up1_eq, e0, pk_sub (by omega)]
    exact Int32.not_lt.mp (nI_pos (by omega))
  · show setC (up1 M' 0 0 ((M' 0 0) - (nI 1))) 1 (gtN (up1 M' 0 0 ((M' 0 0) - (nI 1)) 1) (up1 M' 0 0 ((M' 0 0) - (nI 1)) 3) ((tN (M' 0 0) - 1) * 719) 719) 1 j = m j
    rw [setC_eq, t]
    show (if j < 719 then up1 M' 0 0 ((M' 0 0) - (nI 1)) 3 ((y + 1 - 1) * 719 + j) else _) = m j
    rw [if_pos hj, show up1 M' 0 0 ((M' 0 0) - (nI 1)) 3 = M' 3 from setC_ne (by decide), e3, show y + 1 - 1 = y by omega]
    show (if y * 719 ≤ y * 719 + j ∧ y * 719 + j < y * 719 + 719 then s (y * 719 + j - y * 719) else _) = m j
    rw [if_pos (by omega), show y * 719 + j - y * 719 = j by omega]
    exact es j hj
theorem und_push {M2 M' : Nat → Nat → Int32} {m : Nat → Int32} {x : Nat} (hx : M2 0 0 = nI x) (h4 : x ≤ 4) (es : ∀ j, j < 719 → M2 2 j = m j) (e3 : M' 3 = C8_push M2 3) (e0 : M' 0 0 = C8_push M2 0 0) : Und M' m := by
  by_cases z : x = 4
  · subst z
    obtain ⟨d0, d3, dc, -⟩ := dropM_at M2
    obtain ⟨p0, p3, -, -⟩ := pushT_at (dropM M2)
    rw [push_4 hx] at e3 e0
    have q : dropM M2 0 0 = nI 3 := by rw [d0, hx, pk_sub (by decide)]
    have q2 : dropM M2 2 = M2 2 := dc 2 (by decide) (by decide)
    rw [p3, q, tN_nI (by decide), q2] at e3
    rw [p0, q, nI_add] at e0
    exact und_of (by decide) e0 e3 es
  · have hn : ¬ M2 0 0 = nI 4 := by rw [hx, nI_eq (by omega) (by decide)]; exact z
    obtain ⟨p0, p3, -, -⟩ := pushT_at M2
    rw [push_n hn] at e3 e0
    rw [p3, hx, tN_nI (by omega)] at e3
    rw [p0, hx, nI_add] at e0
    exact und_of (by omega) e0 e3 es
theorem rec_out {M X : Nat → Nat → Int32} {r : Int32} {x : Nat} (hx : X 0 0 = nI x) (h4 : x ≤ 4) (es : ∀ j, j < 719 → X 2 j = M 1 j) (hr : r < 0 → ∀ j, j < 719 → X 1 j = M 1 j) : (C8_recorded X r).2 1 = X 1 ∧ (r < 0 → ∀ j, j < 719 → (C8_recorded X r).2 1 j = M 1 j) ∧ (0 ≤ r → Und (C8_recorded X r).2 (M 1)) := by
  by_cases z : r < 0
  · have e : (C8_recorded X r).2 = X := by unfold C8_recorded; rw [if_pos z]
    rw [e]
    exact ⟨rfl, hr, fun y => absurd z (Int32.not_lt.mpr y)⟩
  · have e : (C8_recorded X r).2 = C8_push X := by unfold C8_recorded; rw [if_neg z]
    rw [e]
    refine ⟨fr_push (by decide) (by decide), fun y => absurd y z, fun _ => und_push hx h4 es rfl rfl⟩
/-- what comes out of a turn -/
def Out (c b : Nat) (M : Nat → Nat → Int32) (F' : Nat → Nat → Nat → Int32) (r : Int32) (G' : Nat → Nat → Int32) : Prop := ∃ M', Wh (c + 1) F' M' ∧ LQ G' (M' 1) ∧ PhiB (b + 12800) (M' 1) ∧ (r < 0 → ∀ j, j < 719 → M' 1 j = M 1 j) ∧ (0 ≤ r → Und M' (M 1))
theorem Wh_up {c c' : Nat} {F : Nat → Nat → Nat → Int32} {M : Nat → Nat → Int32} (h : Wh c F M) (hc : c ≤ c') : Wh c' F M := Wh_frame h hc (fun _ _ => rfl) (fun _ _ _ => rfl) (Gd_up h.1 hc)
theorem Wh_cnt {c : Nat} {F : Nat → Nat → Nat → Int32} {M : Nat → Nat → Int32} (h : Wh c F M) : ∃ x, x ≤ 4 ∧ M 0 0 = nI x := by
  obtain ⟨x, x4, -, b, -⟩ := h.2.1
  exact ⟨x, x4, b⟩
section TURNS
variable {c b : Nat} {F : Nat → Nat → Nat → Int32} {M G : Nat → Nat → Int32}
/-- the numbers that the bound speaks of -/
theorem phi_is {V : Nat → Nat → Int32} {L : List (Nat × Nat)} {n p nS t cap : Nat} {ph : Nat → Nat} (h : Rel V (M 1) L n p) (i : Inv V L n p nS t ph cap) (t29 : t < 2 ^ 31) : tN (M 1 4) = t ∧ tN (M 1 3) = nS ∧ tN (M 1 11) + tN (M 1 12) = wtN V ∧ M 1 4 = nI t := by
  have e4 : M 1 4 = nI t := by rw [← R_t h]; exact i.1.2.2.2.1
  obtain ⟨a, a1, a2, -⟩ := h.2.2.2.2.1 0 (by decide)
  obtain ⟨d, d1, d2, -⟩ := h.2.2.2.2.1 1 (by decide)
  exact ⟨by rw [e4]; exact tN_nI t29, by rw [R_n3 h i]; exact tN_nI (by have := i.1.2.1; omega), by unfold wtN; rw [R_eq h (c := 27) (i := 0) (by decide), R_eq h (c := 28) (i := 0) (by decide)] <;> rfl, e4⟩
theorem mu_lo {V : Nat → Nat → Int32} {L : List (Nat × Nat)} {nS : Nat} {ph : Nat → Nat} : 5 * (nS + 1) * wtN V ≤ mu V L nS ph := by
  unfold mu
  omega
theorem mu_hi {V : Nat → Nat → Int32} {L : List (Nat × Nat)} {n p nS t cap : Nat} {ph : Nat → Nat} (i : Inv V L n p nS t ph cap) : mu V L nS ph ≤ 5 * (nS + 1) * wtN V + 315 := by
  have n6 := i.1.2.1
  have a : S7 (fun k => hwt nS k (ph k) (fu V k)) ≤ 7 * 39 := S7_le (fun k _ => hwt_le n6)
  have b : S7 (fun k => (dts k L).length) ≤ 7 * 6 := S7_le (fun j hj => by
    obtain ⟨-, -, -, x, -, d, -⟩ := i.2.2.1 j hj
    exact dts_6 d (fun x hx => (i.2.1 x hx).1))
  unfold mu
  omega
end TURNS
