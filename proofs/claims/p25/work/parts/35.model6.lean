theorem wi_ok {v : Int32} {a b : Nat} (ha : a < 2 ^ 31) (hb : b < 2 ^ 31) (h : ¬ C8_within v (nI a) (nI b) = 0) : v = nI (tN v) ∧ a ≤ tN v ∧ tN v ≤ b := by
  unfold C8_within at h
  by_cases c1 : v < nI a
  · rw [if_pos c1] at h; exact absurd rfl h
  · rw [if_neg c1] at h
    by_cases c2 : nI b < v
    · rw [if_pos c2] at h; exact absurd rfl h
    · have h0 : ¬ v < 0 := fun q => c1 (by
        rw [Int32.lt_iff_toInt_lt] at q ⊢
        rw [nI_toInt ha]
        have h9 : (0 : Int32).toInt = 0 := by decide
        omega)
      have e := inG h0
      refine ⟨e, ?_, ?_⟩
      · exact Nat.not_lt.mp (fun q => c1 (by rw [e]; exact (nI_ltI (tN_lt _) ha).mpr q))
      · exact Nat.not_lt.mp (fun q => c2 (by rw [e]; exact (nI_ltI hb (tN_lt _)).mpr q))
theorem fr_up {M : Nat → Nat → Int32} {c : Nat} (hc : c ≠ 1) {i : Nat} {x : Int32} : up1 M 1 i x c = M c := setC_ne hc
theorem fr_setEnd {M : Nat → Nat → Int32} {c : Nat} (hc : c ≠ 1) {k w : Nat} {x : Int32} : C8_setEnd M k w x c = M c := setC_ne hc
theorem fr_make {M : Nat → Nat → Int32} {c : Nat} (hc : c ≠ 1) {k w : Nat} {x y : Int32} : C8_make M k w x y c = M c := by unfold C8_make; rw [fr_up hc, fr_up hc, fr_up hc, fr_up hc, fr_up hc]
theorem fr_offer {M : Nat → Nat → Int32} {c : Nat} (hc : c ≠ 1) {k : Nat} {x : Int32} : C8_offer M k x c = M c := by unfold C8_offer; rw [fr_up hc, fr_up hc, fr_make hc, fr_setEnd hc, fr_make hc, fr_setEnd hc]
theorem fr_answer {M : Nat → Nat → Int32} {c : Nat} (hc : c ≠ 1) {k : Nat} {x y : Int32} : C8_answer M k x y c = M c := by unfold C8_answer; rw [fr_make hc, fr_setEnd hc]
theorem fr_take {M : Nat → Nat → Int32} {c : Nat} (hc : c ≠ 1) {k : Nat} : C8_take M k c = M c := by
  unfold C8_take
  split
  · dsimp only; rw [fr_offer hc, fr_answer hc, fr_up hc, fr_up hc]
  · (try dsimp only); rw [fr_answer hc, fr_up hc, fr_up hc]
theorem fr_note {M : Nat → Nat → Int32} {c : Nat} (hc : c ≠ 1) : C8_note M c = M c := by
  unfold C8_note
  split <;> dsimp only <;> rw [fr_answer hc, fr_up hc, fr_up hc, fr_up hc, fr_up hc, fr_up hc, setC_ne hc, fr_up hc, setC_ne hc]
theorem fr_letGo {M : Nat → Nat → Int32} {c : Nat} (hc : c ≠ 1) : C8_letGo M c = M c := by
  unfold C8_letGo
  repeat' split
  all_goals try dsimp only
  all_goals repeat' split
  all_goals try dsimp only
  all_goals first | rfl | rw [fr_offer hc, fr_up hc, fr_up hc, fr_up hc, fr_up hc, setC_ne hc]
theorem fr_requestArrives {M : Nat → Nat → Int32} {c : Nat} (hc : c ≠ 1) {k : Nat} {x : Int32} : C8_requestArrives M k x c = M c := by
  unfold C8_requestArrives
  repeat' split
  all_goals try dsimp only
  all_goals repeat' split
  all_goals try dsimp only
  all_goals first | rw [fr_answer hc, fr_setEnd hc] | rw [fr_note hc, fr_setEnd hc] | rw [fr_take hc, fr_setEnd hc] | rw [fr_up hc, fr_setEnd hc]
theorem fr_answerArrives {M : Nat → Nat → Int32} {c : Nat} (hc : c ≠ 1) {k : Nat} {x : Int32} : C8_answerArrives M k x c = M c := by
  unfold C8_answerArrives
  repeat' split
  all_goals try dsimp only
  all_goals repeat' split
  all_goals try dsimp only
  all_goals first | rw [fr_take hc, fr_up hc, fr_up hc, fr_make hc, fr_setEnd hc, fr_setEnd hc] | rw [fr_up hc, fr_make hc, fr_setEnd hc, fr_setEnd hc] | rw [fr_make hc, fr_setEnd hc, fr_setEnd hc] | rw [fr_letGo hc, fr_up hc, fr_setEnd hc] | rw [fr_offer hc, fr_up hc, fr_setEnd hc] | rw [fr_up hc, fr_setEnd hc]
theorem fr_arrive {M : Nat → Nat → Int32} {c : Nat} (hc : c ≠ 1) {k : Nat} : C8_arrive M k c = M c := by
  unfold C8_arrive
  repeat' split
  all_goals try dsimp only
  all_goals repeat' split
  all_goals try dsimp only
  all_goals first | rw [fr_requestArrives hc, fr_up hc, setC_ne hc, fr_up hc, fr_up hc] | rw [fr_answerArrives hc, fr_up hc, setC_ne hc, fr_up hc, fr_up hc] | rw [fr_setEnd hc, fr_up hc, setC_ne hc, fr_up hc, fr_up hc]
theorem fr_setL {c : Nat} (hc : c ≠ 1) : ∀ (q : Nat) (M : Nat → Nat → Int32), setL q M c = M c := by
  intro q
  induction q with
  | zero => intro M; rfl
  | succ q ih =>
    intro M
    unfold setL
    split
    · rfl
    · rw [ih, marS, fr_arrive hc]
theorem fr_gtoL {c : Nat} (hc : c ≠ 1) {T : Int32} : ∀ (q : Nat) (M : Nat → Nat → Int32), gtoL T q M c = M c := by
  intro q
  induction q with
  | zero => intro M; rfl
  | succ q ih =>
    intro M
    unfold gtoL
    split
    · rfl
    · split
      · rfl
      · rw [ih, marS, fr_arrive hc]
theorem fr_settle {M : Nat → Nat → Int32} {c : Nat} (hc : c ≠ 1) : (C8_settle M).2 c = M c := fr_setL hc 5000 M
theorem fr_goTo {M : Nat → Nat → Int32} {c : Nat} (hc : c ≠ 1) {T : Int32} : C8_goTo M T c = M c := (fr_up hc).trans (fr_gtoL hc 5000 M)
