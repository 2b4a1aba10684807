theorem cn_note {M : Nat → Nat → Int32} {n : Nat} (hn : vp_in (M 1 10) n) (h : n < 900 := by decide) : vp_in (C8_note M 1 10) (n + 1) := by
  have h1 : vp_in (setC M 1 (shl (M 1) 149 19) 1 10) n := e_setC (by show (if _ then _ else _) = _; exact if_neg (by omega)) hn
  have h2 := cn_up (i := 9) (x := (setC M 1 (shl (M 1) 149 19)) 1 9 - nI 1) (by omega) h1
  have h3 : ∀ (V : Nat → Nat → Int32), vp_in (V 1 10) n → vp_in (setC V 1 (sh3 (V 1) 2) 1 10) n := fun V hV => e_setC (by show (if _ then _ else _) = _; exact if_neg (by omega)) hV
  unfold C8_note
  split
  · exact cn_answer (cn_up (by omega) (cn_up (by omega) (cn_up (by omega) (cn_up (by omega) (cn_up (by omega) (h3 _ h2)))))) (show n < 1000 by omega)
  · exact cn_answer (cn_up (by omega) (cn_up (by omega) (cn_up (by omega) (cn_up (by omega) (cn_up (by omega) (h3 _ h2)))))) (show n < 1000 by omega)
def C8_letGo (M : Nat → Nat → Int32)  : Nat → Nat → Int32 :=
  if (M 1 76) = 0 then
    M
  else
    if ((M 1 11) + (M 1 12)) = 0 then
      M
    else
      if (M 1 11) = 0 then
        let V1 := setC M 1 (shl (M 1) 129 19)
        let V2 := up1 V1 1 12 ((V1 1 12) - (nI 1))
        let V3 := up1 V2 1 8 (nI 1)
        let V4 := up1 V3 1 (149 + (tN (M 1 9))) ((nI 16) + (M 1 129))
        let V5 := up1 V4 1 9 ((V4 1 9) + (nI 1))
        let V6 := (C8_offer V5 0 ((nI 16) + (M 1 129)))
        V6
      else
        if (M 1 12) ≤ 0 then
          let V9 := setC M 1 (shl (M 1) 109 19)
          let V10 := up1 V9 1 11 ((V9 1 11) - (nI 1))
          let V11 := up1 V10 1 8 (nI 0)
          let V12 := up1 V11 1 (149 + (tN (M 1 9))) ((nI 0) + (M 1 109))
          let V13 := up1 V12 1 9 ((V12 1 9) + (nI 1))
          let V14 := (C8_offer V13 0 ((nI 0) + (M 1 109)))
          V14
        else
          if (M 1 2) = 0 then
            if (M 1 8) = 0 then
              let V33 := setC M 1 (shl (M 1) 129 19)
              let V34 := up1 V33 1 12 ((V33 1 12) - (nI 1))
              let V35 := up1 V34 1 8 (nI 1)
              let V36 := up1 V35 1 (149 + (tN (M 1 9))) ((nI 16) + (M 1 129))
              let V37 := up1 V36 1 9 ((V36 1 9) + (nI 1))
              let V38 := (C8_offer V37 0 ((nI 16) + (M 1 129)))
              V38
            else
              let V25 := setC M 1 (shl (M 1) 109 19)
              let V26 := up1 V25 1 11 ((V25 1 11) - (nI 1))
              let V27 := up1 V26 1 8 (nI 0)
              let V28 := up1 V27 1 (149 + (tN (M 1 9))) ((nI 0) + (M 1 109))
              let V29 := up1 V28 1 9 ((V28 1 9) + (nI 1))
              let V30 := (C8_offer V29 0 ((nI 0) + (M 1 109)))
              V30
          else
            let V17 := setC M 1 (shl (M 1) 109 19)
            let V18 := up1 V17 1 11 ((V17 1 11) - (nI 1))
            let V19 := up1 V18 1 8 (nI 0)
            let V20 := up1 V19 1 (149 + (tN (M 1 9))) ((nI 0) + (M 1 109))
            let V21 := up1 V20 1 9 ((V20 1 9) + (nI 1))
            let V22 := (C8_offer V21 0 ((nI 0) + (M 1 109)))
            V22
def C8_requestArrives (M : Nat → Nat → Int32) (link : Nat) (value : Int32) : Nat → Nat → Int32 :=
  let V1 := (C8_setEnd M link 1 value)
  if value = 0 then
    let V5 := (C8_answer V1 link (nI 0) (nI 0))
    V5
  else
    if link = (tN (M 1 3)) then
      let V4 := (C8_note V1 )
      V4
    else
      if (V1 1 (97 + link)) = 0 then
        let V3 := (C8_take V1 link)
        V3
      else
        let V2 := up1 V1 1 (83 + link) (nI 1)
        V2
theorem se_in {M : Nat → Nat → Int32} {k w j : Nat} {x : Int32} (h : j < 34) : C8_setEnd M k w x 1 j = M 1 j := up1_in (by omega)
def C8_answerArrives (M : Nat → Nat → Int32) (link : Nat) (value : Int32) : Nat → Nat → Int32 :=
  let V1 := (C8_setEnd M link 3 value)
  if value = (nI 1) then
    let V5 := (C8_setEnd V1 link 0 (nI 0))
    let V6 := (C8_make V5 link 0 (nI 0) (nI 0))
    if link = 0 then
      V6
    else
      let V7 := up1 V6 1 ((97 + link) - 1) (nI 0)
      if (V7 1 ((83 + link) - 1)) = (nI 1) then
        let V8 := up1 V7 1 ((83 + link) - 1) (nI 0)
        let V9 := (C8_take V8 (link - 1))
        V9
      else
        V7
  else
    let V2 := up1 V1 1 (76 + link) (nI 1)
    if link = 0 then
      let V4 := (C8_letGo V2 )
      V4
    else
      if (V2 1 ((97 + link) - 1)) = (nI 1) then
        let V3 := (C8_offer V2 link (V2 1 ((103 + link) - 1)))
        V3
      else
        V2
def C8_whenOf (M : Nat → Nat → Int32) (change : Nat) : Int32 :=
  (M 1 ((319 + (4 * change)) + 0))
theorem nI_ne5 {n : Nat} (h : n < 2 ^ 31) : ¬ nI n = (-5) := by
  intro e
  have h1 := congrArg Int32.toInt e
  rw [nI_toInt h] at h1
  have h2 : ((-5 : Int32)).toInt = -5 := by decide
  rw [h2] at h1
  omega
def L8_nextChange (M : Nat → Nat → Int32)  : Nat → Nat → Nat → Int32
  | 0, k, j =>
      (nI j)
  | q + 1, k, j =>
      if (tN (M 1 10)) ≤ k then
        (nI j)
      else
        if (C8_whenOf M j) ≤ (C8_whenOf M k) then
          L8_nextChange M q (k + 1) j
        else
          L8_nextChange M q (k + 1) k
def C8_nextChange (M : Nat → Nat → Int32)  : Int32 :=
  if (tN (M 1 10)) ≤ 0 then
    (-5)
  else
    L8_nextChange M (99) 1 0
