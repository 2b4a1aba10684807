/-! total and next on both sides -/
theorem Q_ww {V M : Nat → Nat → Int32} {L : List (Nat × Nat)} {n p : Nat} (h : Rel V (M 1) L n p) : C2_waitingWords V = (M 1 11) + (M 1 12) := by
  unfold C2_waitingWords
  rw [show V 27 0 = M 1 11 from R_eq h (by decide), show V 28 0 = M 1 12 from R_eq h (by decide)]
theorem next_both {V M : Nat → Nat → Int32} {L : List (Nat × Nat)} {n p nS t cap : Nat} {ph : Nat → Nat} (h : Rel V (M 1) L n p) (i : Inv V L n p nS t ph cap) (ht : t < 2 ^ 29) : (¬ C2_isQuiet V = 0 ∧ C8_nextChange M = (-5) ∧ L = []) ∨ (C2_isQuiet V = 0 ∧ ¬ C8_nextChange M = (-5) ∧ C0_firstTime (chU V) = C8_whenOf M (tN (C8_nextChange M))) := by
  have hl := inv_len i
  by_cases hL : L = []
  · subst hL
    exact Or.inl ⟨quiet_of h, next_0 h.2.2.1, rfl⟩
  · right
    have hpos : 0 < L.length := List.length_pos_iff.mpr hL
    obtain ⟨r, er, hr⟩ := next_M h.2.2.1 (by omega) (inv_t31 i (by omega)) hpos
    have hr31 : r < 2 ^ 31 := by have := hr.1; omega
    obtain ⟨f1, f2, f3⟩ := first_of h i hr
    refine ⟨f1, by rw [er]; exact nx_ne hr31, ?_⟩
    rw [er, tN_nI hr31, f2, f3]
theorem Q_next {F : Nat → Nat → Nat → Int32} {M : Nat → Nat → Int32} {L : List (Nat × Nat)} {n p nS t cap : Nat} {ph : Nat → Nat} (h : Rel (F 0) (M 1) L n p) (i : Inv (F 0) L n p nS t ph cap) (ht : t < 2 ^ 29) : C7_next F = C8_next M := by
  unfold C7_next C8_next
  rcases next_both h i ht with ⟨a, b, -⟩ | ⟨a, b, c⟩
  · rw [if_neg a, if_pos b]
  · rw [if_pos a, if_neg b, c]
theorem Q_total {F : Nat → Nat → Nat → Int32} {M : Nat → Nat → Int32} {L : List (Nat × Nat)} {n p nS t cap : Nat} {ph : Nat → Nat} (h : Rel (F 0) (M 1) L n p) (i : Inv (F 0) L n p nS t ph cap) (o : Off (F 0)) (e8 : F 8 0 0 = M 0 0) (e7 : F 7 0 0 = M 0 2) (what : Int32) : C7_total F what = C8_total M what := by
  unfold C7_total C8_total
  rw [Q_ww h, (Q_full h i).1, e8, e7, show F 0 0 3 = M 1 90 from (show F 0 0 3 = F 0 11 8 from o.1).trans (R_eq h (c := 11) (i := 8) (by decide)), show F 0 4 1 = M 1 10 from h.2.1.2.2.1.trans h.2.2.1.1.symm, show F 0 0 0 = M 1 3 from R_eq h (c := 0) (i := 0) (by decide), show F 0 0 1 = M 1 4 from R_eq h (c := 0) (i := 1) (by decide), show F 0 7 0 = M 1 5 from R_eq h (c := 7) (i := 0) (by decide), show F 0 7 1 = M 1 6 from R_eq h (c := 7) (i := 1) (by decide), show F 0 0 4 = M 1 7 from R_eq h (c := 0) (i := 4) (by decide), show F 0 0 2 = M 1 8 from R_eq h (c := 0) (i := 2) (by decide), show F 0 1 0 = M 1 0 from R_eq h (c := 1) (i := 0) (by decide), show F 0 1 1 = M 1 1 from R_eq h (c := 1) (i := 1) (by decide), show F 0 1 2 = M 1 2 from R_eq h (c := 1) (i := 2) (by decide)]
