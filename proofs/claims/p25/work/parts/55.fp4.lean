theorem tx_readOrdersL : ∀ (q i : Nat) (T : Nat → Nat → Int32), txOK T → txOK (L6_readOrders q i T).2 := by
  intro q
  induction q with
  | zero => intro i T h; exact h
  | succ q ih =>
    intro i T h
    have h1 := tx_readOrder h
    have h2 := tx_readSign (x := nI 44) h1
    unfold L6_readOrders
    dsimp only
    by_cases c1 : (C6_readOrder T).1 = 0
    · rw [if_pos c1]; exact h1
    · rw [if_neg c1]
      by_cases c2 : (C6_readOrder T).2 0 2 < (C6_readOrder T).2 0 0
      · rw [if_pos c2]
        by_cases c3 : (C6_readSign (C6_readOrder T).2 (nI 44)).1 = 0
        · rw [if_pos c3]; exact h2
        · rw [if_neg c3]; exact ih _ _ h2
      · rw [if_neg c2]; exact h1
theorem tx_readOrders {T : Nat → Nat → Int32} (h : txOK T) : txOK (C6_readOrders T).2 := tx_readOrdersL 21 0 _ ⟨h.1, vp_in_nI' (by decide)⟩
/-- one order of the text done on a line: what it answers and leaves -/
def ordC (T : Nat → Nat → Int32) (i : Nat) (V : Nat → Nat → Int32) : Int32 × (Nat → Nat → Int32) :=
  if T 2 i = nI 46 then C2_passTicks V (T 4 i) else if T 2 i = nI 97 then C2_addWord V (nI 0) (T 4 i) else if T 2 i = nI 98 then C2_addWord V (nI 1) (T 4 i) else if T 2 i = nI 107 then C2_changeDelay V (T 3 i) (nI 1) (T 4 i) else if T 2 i = nI 114 then C2_changeDelay V (T 3 i) (nI 0) (T 4 i) else C2_changeDelay V (T 3 i) (nI 2) (T 4 i)
def ptOK (V : Nat → Nat → Int32) (ticks : Int32) : Prop := ¬ ticks < nI 1 → ticks ≤ nI 1000 → V 0 1 + ticks ≤ nI 1000000 → lauOK (V 0 1 + ticks) 1000000 V
/-- what the orders need on their way -/
def poOK (T : Nat → Nat → Int32) : Nat → Nat → (Nat → Nat → Int32) → Prop
  | 0, _, V => WF V ∧ boL V
  | q + 1, i, V => WF V ∧ boL V ∧ (i < tN (T 0 1) → ptOK V (T 4 i) ∧ poOK T q (i + 1) (ordC T i V).2)
theorem poOK_1 {T : Nat → Nat → Int32} {q i : Nat} {V : Nat → Nat → Int32} (h : poOK T q i V) : WF V ∧ boL V := by
  cases q with
  | zero => exact h
  | succ q => exact ⟨h.1, h.2.1⟩
/-- what stands fast while the orders are done: all but the trial -/
def pfX (F F0 : Nat → Nat → Nat → Int32) : Prop := F0 0 = F 0 ∧ F0 2 = F 2 ∧ F0 8 = F 8 ∧ F0 7 = (C6_readOrders (F 7)).2 ∧ ∀ a : Nat, 3 ≤ a → a ≠ 7 → F0 a = F a
theorem pfX_1 {F F0 : Nat → Nat → Nat → Int32} {V : Nat → Nat → Int32} (h : pfX F F0) : pfX F (setF F0 1 V) := ⟨by rw [setF_ne (by decide)]; exact h.1, by rw [setF_ne (by decide)]; exact h.2.1, by rw [setF_ne (by decide)]; exact h.2.2.1, by rw [setF_ne (by decide)]; exact h.2.2.2.1, fun a h3 h7 => by rw [setF_ne (by omega)]; exact h.2.2.2.2 a h3 h7⟩
def L7_perform  : Nat → Nat → (Nat → Nat → Nat → Int32) → Int32 × (Nat → Nat → Nat → Int32)
  | 0, i, F0 =>
      let V1 := (C7_accept F0 (nI (tN (F0 7 0 1)))).2
      (((C7_accept F0 (nI (tN (F0 7 0 1)))).1), V1)
  | q + 1, i, F0 =>
      if (tN (F0 7 0 1)) ≤ i then
        let V1 := (C7_accept F0 (nI (tN (F0 7 0 1)))).2
        (((C7_accept F0 (nI (tN (F0 7 0 1)))).1), V1)
      else
        if (F0 7 2 i) = nI 46 then
          let V2 := setF F0 1 (C2_passTicks (F0 1) (F0 7 4 i)).2
          if 0 ≤ ((C2_passTicks (F0 1) (F0 7 4 i)).1) then
            L7_perform q (i + 1) V2
          else
            if ((C2_passTicks (F0 1) (F0 7 4 i)).1) = (-5) then
              L7_perform q (i + 1) V2
            else
              (((C2_passTicks (F0 1) (F0 7 4 i)).1), V2)
        else
          if (F0 7 2 i) = nI 97 then
            let V3 := setF F0 1 (C2_addWord (F0 1) (nI 0) (F0 7 4 i)).2
            if 0 ≤ ((C2_addWord (F0 1) (nI 0) (F0 7 4 i)).1) then
              L7_perform q (i + 1) V3
            else
              if ((C2_addWord (F0 1) (nI 0) (F0 7 4 i)).1) = (-5) then
                L7_perform q (i + 1) V3
              else
                (((C2_addWord (F0 1) (nI 0) (F0 7 4 i)).1), V3)
          else
            if (F0 7 2 i) = nI 98 then
              let V4 := setF F0 1 (C2_addWord (F0 1) (nI 1) (F0 7 4 i)).2
              if 0 ≤ ((C2_addWord (F0 1) (nI 1) (F0 7 4 i)).1) then
                L7_perform q (i + 1) V4
              else
                if ((C2_addWord (F0 1) (nI 1) (F0 7 4 i)).1) = (-5) then
                  L7_perform q (i + 1) V4
                else
                  (((C2_addWord (F0 1) (nI 1) (F0 7 4 i)).1), V4)
            else
              if (F0 7 2 i) = nI 107 then
                let V5 := setF F0 1 (C2_changeDelay (F0 1) (F0 7 3 i) (nI 1) (F0 7 4 i)).2
                if 0 ≤ ((C2_changeDelay (F0 1) (F0 7 3 i) (nI 1) (F0 7 4 i)).1) then
                  L7_perform q (i + 1) V5
                else
                  if ((C2_changeDelay (F0 1) (F0 7 3 i) (nI 1) (F0 7 4 i)).1) = (-5) then
                    L7_perform q (i + 1) V5
                  else
                    (((C2_changeDelay (F0 1) (F0 7 3 i) (nI 1) (F0 7 4 i)).1), V5)
              else
                if (F0 7 2 i) = nI 114 then
                  let V6 := setF F0 1 (C2_changeDelay (F0 1) (F0 7 3 i) (nI 0) (F0 7 4 i)).2
                  if 0 ≤ ((C2_changeDelay (F0 1) (F0 7 3 i) (nI 0) (F0 7 4 i)).1) then
                    L7_perform q (i + 1) V6
                  else
                    if ((C2_changeDelay (F0 1) (F0 7 3 i) (nI 0) (F0 7 4 i)).1) = (-5) then
                      L7_perform q (i + 1) V6
                    else
                      (((C2_changeDelay (F0 1) (F0 7 3 i) (nI 0) (F0 7 4 i)).1), V6)
                else
                  let V7 := setF F0 1 (C2_changeDelay (F0 1) (F0 7 3 i) (nI 2) (F0 7 4 i)).2
                  if 0 ≤ ((C2_changeDelay (F0 1) (F0 7 3 i) (nI 2) (F0 7 4 i)).1) then
                    L7_perform q (i + 1) V7
                  else
                    if ((C2_changeDelay (F0 1) (F0 7 3 i) (nI 2) (F0 7 4 i)).1) = (-5) then
                      L7_perform q (i + 1) V7
                    else
                      (((C2_changeDelay (F0 1) (F0 7 3 i) (nI 2) (F0 7 4 i)).1), V7)
def C7_perform (F : Nat → Nat → Nat → Int32)  : Int32 × (Nat → Nat → Nat → Int32) :=
  let V1 := setF F 7 (C6_readOrders (F 7) ).2
  if ((C6_readOrders (F 7) ).1) = (-1) then
    let V2 := setF V1 1 (C2_copyFrom (V1 1) (V1 0))
    L7_perform (21) 0 V2
  else
    (((-100) - ((C6_readOrders (F 7) ).1)), V1)
