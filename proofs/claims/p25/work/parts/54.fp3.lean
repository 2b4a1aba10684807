theorem k_settleT (F : Nat → Nat → Nat → Int32) (lead : Int32) {a : Nat} (h : a ≠ 1) : C7_settleTrialWithLead F lead a = F a := by
  unfold C7_settleTrialWithLead
  try dsimp only
  rw [setF_ne h, setF_ne h, setF_ne h]
def L7_leastLead  : Nat → Nat → (Nat → Nat → Nat → Int32) → Int32 × (Nat → Nat → Nat → Int32)
  | 0, k, F0 =>
      ((-5), F0)
  | q + 1, k, F0 =>
      let V1 := (C7_settleTrialWithLead F0 (nI k))
      if (C7_wrongInTrial V1 ) = 0 then
        ((nI k), V1)
      else
        L7_leastLead q (k + 1) V1
def C7_leastLead (F : Nat → Nat → Nat → Int32)  : Int32 × (Nat → Nat → Nat → Int32) :=
  L7_leastLead (21) 0 F
def C7_quietTimeWithLess (F : Nat → Nat → Nat → Int32) (link : Nat) (wire : Nat) : Int32 × (Nat → Nat → Nat → Int32) :=
  let V1 := setF F 1 (C2_copyFrom (F 1) (F 0))
  let V2 := setF V1 1 (up1 (V1 1) (18 + link) wire ((V1 1 (18 + link) wire) - (nI 1)))
  let V3 := setF V2 1 (C2_letArriveUpTo (V2 1) (nI 2000000000))
  ((V3 1 0 1), V3)
theorem k_quietT (F : Nat → Nat → Nat → Int32) (k w : Nat) {a : Nat} (h : a ≠ 1) : (C7_quietTimeWithLess F k w).2 a = F a := by
  unfold C7_quietTimeWithLess
  try dsimp only
  rw [setF_ne h, setF_ne h, setF_ne h]
def L7_dearest  : Nat → Nat → Nat → Int32 → Int32 → (Nat → Nat → Nat → Int32) → Int32 × (Nat → Nat → Nat → Int32)
  | 0, link, wire, best, earliest, F0 =>
      ((-5), F0)
  | q + 1, link, wire, best, earliest, F0 =>
      if 3 ≤ wire then
        if (tN (F0 0 0 0)) < (link + 1) then
          (best, F0)
        else
          L7_dearest q (link + 1) 0 best earliest F0
      else
        if (F0 0 (18 + link) wire) ≤ (nI 1) then
          L7_dearest q link (wire + 1) best earliest F0
        else
          let V1 := (C7_quietTimeWithLess F0 link wire).2
          if best = (-5) then
            L7_dearest q link (wire + 1) (nI ((10 * link) + wire)) ((C7_quietTimeWithLess F0 link wire).1) V1
          else
            if earliest ≤ ((C7_quietTimeWithLess F0 link wire).1) then
              L7_dearest q link (wire + 1) best earliest V1
            else
              L7_dearest q link (wire + 1) (nI ((10 * link) + wire)) ((C7_quietTimeWithLess F0 link wire).1) V1
def C7_dearest (F : Nat → Nat → Nat → Int32)  : Int32 × (Nat → Nat → Nat → Int32) :=
  L7_dearest (28) 0 0 (-5) (nI 0) F
