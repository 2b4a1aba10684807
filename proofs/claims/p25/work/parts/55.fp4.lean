/-- one order of the text done on a line: what it answers and leaves -/
def ordC (T : Nat → Nat → Int32) (i : Nat) (V : Nat → Nat → Int32) : Int32 × (Nat → Nat → Int32) :=
  if T 2 i = nI 46 then C2_passTicks V (T 4 i) else if T 2 i = nI 97 then C2_addWord V (nI 0) (T 4 i) else if T 2 i = nI 98 then C2_addWord V (nI 1) (T 4 i) else if T 2 i = nI 107 then C2_changeDelay V (T 3 i) (nI 1) (T 4 i) else if T 2 i = nI 114 then C2_changeDelay V (T 3 i) (nI 0) (T 4 i) else C2_changeDelay V (T 3 i) (nI 2) (T 4 i)
def ptOK (V : Nat → Nat → Int32) (ticks : Int32) : Prop := ¬ ticks < nI 1 → ticks ≤ nI 1000 → V 0 1 + ticks ≤ nI 1000000 → lauOK (V 0 1 + ticks) 1000000 V
/-- what the orders need on their way -/
def poOK (T : Nat → Nat → Int32) : Nat → Nat → (Nat → Nat → Int32) → Prop
  | 0, _, V => WF V ∧ boL V
  | q + 1, i, V => WF V ∧ boL V ∧ (i < tN (T 0 1) → ptOK V (T 4 i) ∧ poOK T q (i + 1) (ordC T i V).2)
theorem poOK_1 {T : Nat → Nat → Int32} {q i : Nat} {V : Nat → Nat → Int32} (h : poOK T q i V) : WF V ∧ boL V := by
  cases q with
  | zero => exact h
  | succ q => exact ⟨h.1, h.2.1⟩
def L7_perform  : Nat → Nat → (Nat → Nat → Nat → Int32) → Int32 × (Nat → Nat → Nat → Int32)
  | 0, i, F0 =>
      let V1 := (C7_accept F0 (nI (tN (F0 7 0 1)))).2
      (((C7_accept F0 (nI (tN (F0 7 0 1)))).1), V1)
  | q + 1, i, F0 =>
      if (tN (F0 7 0 1)) ≤ i then
        let V1 := (C7_accept F0 (nI (tN (F0 7 0 1)))).2
        (((C7_accept F0 (nI (tN (F0 7 0 1)))).1), V1)
      else
        if (F0 7 2 i) = nI 46 then
          let V2 := setF F0 1 (C2_passTicks (F0 1) (F0 7 4 i)).2
          if 0 ≤ ((C2_passTicks (F0 1) (F0 7 4 i)).1) then
            L7_perform q (i + 1) V2
          else
            if ((C2_passTicks (F0 1) (F0 7 4 i)).1) = (-5) then
              L7_perform q (i + 1) V2
            else
              (((C2_passTicks (F0 1) (F0 7 4 i)).1), V2)
        else
          if (F0 7 2 i) = nI 97 then
            let V3 := setF F0 1 (C2_addWord (F0 1) (nI 0) (F0 7 4 i)).2
            if 0 ≤ ((C2_addWord (F0 1) (nI 0) (F0 7 4 i)).1) then
              L7_perform q (i + 1) V3
            else
              if ((C2_addWord (F0 1) (nI 0) (F0 7 4 i)).1) = (-5) then
                L7_perform q (i + 1) V3
              else
                (((C2_addWord (F0 1) (nI 0) (F0 7 4 i)).1), V3)
          else
            if (F0 7 2 i) = nI 98 then
              let V4 := setF F0 1 (C2_addWord (F0 1) (nI 1) (F0 7 4 i)).2
              if 0 ≤ ((C2_addWord (F0 1) (nI 1) (F0 7 4 i)).1) then
                L7_perform q (i + 1) V4
              else
                if ((C2_addWord (F0 1) (nI 1) (F0 7 4 i)).1) = (-5) then
                  L7_perform q (i + 1) V4
                else
                  (((C2_addWord (F0 1) (nI 1) (F0 7 4 i)).1), V4)
            else
              if (F0 7 2 i) = nI 107 then
                let V5 := setF F0 1 (C2_changeDelay (F0 1) (F0 7 3 i) (nI 1) (F0 7 4 i)).2
                if 0 ≤ ((C2_changeDelay (F0 1) (F0 7 3 i) (nI 1) (F0 7 4 i)).1) then
                  L7_perform q (i + 1) V5
                else
                  if ((C2_changeDelay (F0 1) (F0 7 3 i) (nI 1) (F0 7 4 i)).1) = (-5) then
                    L7_perform q (i + 1) V5
                  else
                    (((C2_changeDelay (F0 1) (F0 7 3 i) (nI 1) (F0 7 4 i)).1), V5)
              else
                if (F0 7 2 i) = nI 114 then
                  let V6 := setF F0 1 (C2_changeDelay (F0 1) (F0 7 3 i) (nI 0) (F0 7 4 i)).2
                  if 0 ≤ ((C2_changeDelay (F0 1) (F0 7 3 i) (nI 0) (F0 7 4 i)).1) then
                    L7_perform q (i + 1) V6
                  else
                    if ((C2_changeDelay (F0 1) (F0 7 3 i) (nI 0) (F0 7 4 i)).1) = (-5) then
                      L7_perform q (i + 1) V6
                    else
                      (((C2_changeDelay (F0 1) (F0 7 3 i) (nI 0) (F0 7 4 i)).1), V6)
                else
                  let V7 := setF F0 1 (C2_changeDelay (F0 1) (F0 7 3 i) (nI 2) (F0 7 4 i)).2
                  if 0 ≤ ((C2_changeDelay (F0 1) (F0 7 3 i) (nI 2) (F0 7 4 i)).1) then
                    L7_perform q (i + 1) V7
                  else
                    if ((C2_changeDelay (F0 1) (F0 7 3 i) (nI 2) (F0 7 4 i)).1) = (-5) then
                      L7_perform q (i + 1) V7
                    else
                      (((C2_changeDelay (F0 1) (F0 7 3 i) (nI 2) (F0 7 4 i)).1), V7)
