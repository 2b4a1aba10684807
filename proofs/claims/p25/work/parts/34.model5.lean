def C8_putAside (M : Nat → Nat → Int32)  : Nat → Nat → Int32 :=
  let V1 := setC M 2 (cpN (M 1) (M 2) 719)
  V1
def C8_takeBack (M : Nat → Nat → Int32)  : Nat → Nat → Int32 :=
  let V1 := setC M 1 (cpN (M 2) (M 1) 719)
  V1
def C8_push (M : Nat → Nat → Int32)  : Nat → Nat → Int32 :=
  if (M 0 0) = (nI 4) then
    let V5 := setC M 3 (sh7 (M 3) 2157)
    let V6 := up1 V5 0 0 ((V5 0 0) - (nI 1))
    let V7 := setC V6 3 (ptN (V6 3) 2157 (V6 2) 719)
    let V8 := up1 V7 0 0 ((V7 0 0) + (nI 1))
    V8
  else
    let V1 := setC M 3 (ptN (M 3) ((tN (M 0 0)) * 719) (M 2) 719)
    let V2 := up1 V1 0 0 ((V1 0 0) + (nI 1))
    V2
def C8_record (M : Nat → Nat → Int32)  : Nat → Nat → Int32 :=
  let V1 := (C8_putAside M )
  let V2 := (C8_push V1 )
  V2
def C8_undo (M : Nat → Nat → Int32)  : Int32 × (Nat → Nat → Int32) :=
  if (M 0 0) = 0 then
    ((-5), M)
  else
    let V1 := up1 M 0 0 ((M 0 0) - (nI 1))
    let V2 := setC V1 1 (gtN (V1 1) (V1 3) ((tN (M 0 0) - 1) * 719) 719)
    ((V2 0 0), V2)
def C8_keep (M : Nat → Nat → Int32)  : Int32 × (Nat → Nat → Int32) :=
  let V1 := setC M 4 (cpN (M 1) (M 4) 719)
  let V2 := up1 V1 0 1 (nI 1)
  ((V2 1 4), V2)
def C8_restore (M : Nat → Nat → Int32)  : Int32 × (Nat → Nat → Int32) :=
  if (M 0 1) = 0 then
    ((-5), M)
  else
    let V1 := (C8_record M )
    let V2 := setC V1 1 (cpN (V1 4) (V1 1) 719)
    ((V2 1 4), V2)
def C8_clean (M : Nat → Nat → Int32) (stages : Int32) : Nat → Nat → Int32 :=
  let V1 := setC M 1 (zer (M 1) 3 719)
  let V2 := up1 V1 1 3 stages
  let V3 := up1 V2 1 8 (-5)
  let V4 := up1 V3 1 76 (nI 1)
  let V5 := up1 V4 1 13 (nI 2)
  let V6 := up1 V5 1 14 (nI 2)
  let V7 := up1 V6 1 15 (nI 2)
  let V8 := up1 V7 1 77 (nI 1)
  let V9 := up1 V8 1 16 (nI 2)
  let V10 := up1 V9 1 17 (nI 2)
  let V11 := up1 V10 1 18 (nI 2)
  let V12 := up1 V11 1 78 (nI 1)
  let V13 := up1 V12 1 19 (nI 2)
  let V14 := up1 V13 1 20 (nI 2)
  let V15 := up1 V14 1 21 (nI 2)
  let V16 := up1 V15 1 79 (nI 1)
  let V17 := up1 V16 1 22 (nI 2)
  let V18 := up1 V17 1 23 (nI 2)
  let V19 := up1 V18 1 24 (nI 2)
  let V20 := up1 V19 1 80 (nI 1)
  let V21 := up1 V20 1 25 (nI 2)
  let V22 := up1 V21 1 26 (nI 2)
  let V23 := up1 V22 1 27 (nI 2)
  let V24 := up1 V23 1 81 (nI 1)
  let V25 := up1 V24 1 28 (nI 2)
  let V26 := up1 V25 1 29 (nI 2)
  let V27 := up1 V26 1 30 (nI 2)
  let V28 := up1 V27 1 82 (nI 1)
  let V29 := up1 V28 1 31 (nI 2)
  let V30 := up1 V29 1 32 (nI 2)
  let V31 := up1 V30 1 33 (nI 2)
  V31
