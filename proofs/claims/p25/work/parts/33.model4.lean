def C8_arrive (M : Nat → Nat → Int32) (change : Nat) : Nat → Nat → Int32 :=
  let V1 := up1 M 1 4 (M 1 ((319 + (4 * change)) + 0))
  let V2 := up1 V1 1 10 ((V1 1 10) - (nI 1))
  let V3 := setC V2 1 (sh4 (V2 1) (319 + (4 * change)) (319 + (4 * (tN (M 1 10) - 1))))
  let V4 := up1 V3 1 7 ((V3 1 7) + (nI 1))
  let lk := tN (M 1 ((319 + (4 * change)) + 1))
  if (M 1 ((319 + (4 * change)) + 2)) = 0 then
    let V7 := (C8_requestArrives V4 lk (M 1 ((319 + (4 * change)) + 3)))
    V7
  else
    if (M 1 ((319 + (4 * change)) + 2)) = (nI 1) then
      let V6 := (C8_answerArrives V4 lk (M 1 ((319 + (4 * change)) + 3)))
      V6
    else
      let V5 := (C8_setEnd V4 lk 5 (M 1 ((319 + (4 * change)) + 3)))
      V5
/-- what the reference needs of its state on the way, before one arrives -/
def MF (M : Nat → Nat → Int32) : Prop := vp_in (M 1 10) 98 ∧ vp_in (M 1 3) 7 ∧ vp_in (M 1 9) 20
def MFn (M : Nat → Nat → Int32) (nx : Nat) : Prop := nx < tN (M 1 10) ∧ vp_in (M 1 ((319 + (4 * nx)) + 1)) 7 ∧ tN (M 1 ((319 + (4 * nx)) + 1)) ≤ tN (M 1 3)
theorem L8_nx_lt {M : Nat → Nat → Int32} : ∀ (q k j : Nat), j < k → k ≤ 100 → k + q = 100 → ∃ r : Nat, L8_nextChange M q k j = nI r ∧ r < 100 := by
  intro q
  induction q with
  | zero => intro k j h h2 h3; exact ⟨j, rfl, by omega⟩
  | succ q ih =>
    intro k j h h2 h3
    unfold L8_nextChange
    split
    · exact ⟨j, rfl, by omega⟩
    · split
      · exact ih (k + 1) j (by omega) (by omega) (by omega)
      · exact ih (k + 1) k (by omega) (by omega) (by omega)
theorem nx_N {M : Nat → Nat → Int32} (h : ¬ C8_nextChange M = (-5)) : C8_nextChange M = nI (tN (C8_nextChange M)) ∧ tN (C8_nextChange M) < 100 := by
  unfold C8_nextChange at h ⊢
  split
  · rename_i c; rw [if_pos c] at h; exact absurd rfl h
  · obtain ⟨r, e, hr⟩ := L8_nx_lt (M := M) 99 1 0 (by decide) (by decide) rfl
    rw [e, tN_nI (by omega)]
    exact ⟨rfl, hr⟩
/-- one arrival on the reference's side -/
def marS (M : Nat → Nat → Int32) : Nat → Nat → Int32 := C8_arrive M (tN (C8_nextChange M))
def setOK : Nat → (Nat → Nat → Int32) → Prop
  | 0, M => MF M ∧ C8_nextChange M = (-5)
  | q + 1, M => MF M ∧ (¬ C8_nextChange M = (-5) → MFn M (tN (C8_nextChange M)) ∧ setOK q (marS M))
theorem setOK_mf {q : Nat} {M : Nat → Nat → Int32} (h : setOK q M) : MF M := by
  cases q with
  | zero => exact h.1
  | succ q => exact h.1
def setL : Nat → (Nat → Nat → Int32) → Nat → Nat → Int32
  | 0, M => M
  | q + 1, M => if C8_nextChange M = (-5) then M else setL q (marS M)
def C8_settleS (M : Nat → Nat → Int32) : Nat → Nat → Int32 := setL 5000 M
def C8_settle (M : Nat → Nat → Int32) : Int32 × (Nat → Nat → Int32) := ((C8_settleS M 1 4) - (M 1 4), C8_settleS M)
def gtoOK (T : Int32) : Nat → (Nat → Nat → Int32) → Prop
  | 0, M => MF M ∧ C8_nextChange M = (-5)
  | q + 1, M => MF M ∧ (¬ C8_nextChange M = (-5) → ¬ T < C8_whenOf M (tN (C8_nextChange M)) → MFn M (tN (C8_nextChange M)) ∧ gtoOK T q (marS M))
theorem gtoOK_mf {T : Int32} {q : Nat} {M : Nat → Nat → Int32} (h : gtoOK T q M) : MF M := by
  cases q with
  | zero => exact h.1
  | succ q => exact h.1
def gtoL (T : Int32) : Nat → (Nat → Nat → Int32) → Nat → Nat → Int32
  | 0, M => M
  | q + 1, M => if C8_nextChange M = (-5) then M else if T < C8_whenOf M (tN (C8_nextChange M)) then M else gtoL T q (marS M)
def C8_goTo (M : Nat → Nat → Int32) (T : Int32) : Nat → Nat → Int32 := up1 (gtoL T 5000 M) 1 4 T
