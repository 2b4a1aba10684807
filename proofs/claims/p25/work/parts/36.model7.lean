theorem mm_ok {M : Nat → Nat → Int32} {k n : Nat} (h0 : vp_in (M 1 11) n) (h1 : vp_in (M 1 12) n) (hk : k < 2) : vp_in (M 1 (11 + k)) n := by
  match k, hk with
  | 0, _ => exact h0
  | 1, _ => exact h1
def C8_adds (M : Nat → Nat → Int32) (sender : Int32) (word : Int32) : Int32 × (Nat → Nat → Int32) :=
  if (C8_isSender sender) = 0 then
    ((-1), M)
  else
    if (C8_within word (nI 0) (nI 15)) = 0 then
      ((-2), M)
    else
      let sn := tN sender
      if (tN (M 1 (11 + sn))) = 20 then
        ((-3), M)
      else
        let V1 := up1 M 1 ((109 + (20 * sn)) + (tN (M 1 (11 + sn)))) word
        let V2 := up1 V1 1 (11 + sn) ((V1 1 (11 + sn)) + (nI 1))
        let V3 := (C8_letGo V2 )
        ((V3 1 (11 + sn)), V3)
def C8_runs (M : Nat → Nat → Int32) (ticks : Int32) : Int32 × (Nat → Nat → Int32) :=
  if (C8_within ticks (nI 1) (nI 1000)) = 0 then
    ((-2), M)
  else
    if ((M 1 4) + ticks) ≤ (nI 1000000) then
      let V1 := (C8_goTo M ((M 1 4) + ticks))
      (((V1 1 5) - (M 1 5)), V1)
    else
      ((-3), M)
def C8_setsDelay (M : Nat → Nat → Int32) (link : Int32) (wire : Int32) (delay : Int32) : Int32 × (Nat → Nat → Int32) :=
  if (C8_isLink M link) = 0 then
    ((-1), M)
  else
    if (C8_isWire wire) = 0 then
      ((-1), M)
    else
      if (C8_within delay (nI 1) (nI 20)) = 0 then
        ((-2), M)
      else
        let lk := tN link
        let wr := tN wire
        let V1 := up1 M 1 ((13 + (3 * lk)) + wr) delay
        if (M 1 ((13 + (3 * lk)) + wr)) = delay then
          ((-5), V1)
        else
          ((M 1 ((13 + (3 * lk)) + wr)), V1)
def C8_fullStages (M : Nat → Nat → Int32)  : Int32 :=
  (((((((nI 0) + (M 1 97)) + (M 1 98)) + (M 1 99)) + (M 1 100)) + (M 1 101)) + (M 1 102))
def C8_tellsLink (M : Nat → Nat → Int32) (link : Nat) (what : Nat) : Int32 :=
  if 3 ≤ what then
    if 9 ≤ what then
      if (nI what) = nI 9 then
        (M 1 (76 + link))
      else
        if (nI what) = nI 10 then
          (M 1 (83 + link))
        else
          if (nI what) = nI 11 then
            (M 1 (90 + link))
          else
            if ((M 1 ((13 + (3 * link)) + 0)) + (M 1 0)) < (M 1 ((13 + (3 * link)) + 2)) then
              (nI 0)
            else
              (nI 1)
    else
      (C8_end M link (what - 3))
  else
    (M 1 ((13 + (3 * link)) + what))
def C8_link (M : Nat → Nat → Int32) (link : Int32) (what : Int32) : Int32 :=
  if (C8_isLink M link) = 0 then
    (-1)
  else
    if (C8_within what (nI 0) (nI 12)) = 0 then
      (-2)
    else
      let lk := tN link
      let wh := tN what
      (C8_tellsLink M lk wh)
def C8_stage (M : Nat → Nat → Int32) (stage : Int32) : Int32 :=
  if (C8_within stage (nI 0) (nI ((tN (M 1 3)) - 1))) = 0 then
    (-1)
  else
    let sg := tN stage
    if (M 1 (97 + sg)) = (nI 1) then
      (M 1 (103 + sg))
    else
      (-5)
def C8_waiting (M : Nat → Nat → Int32) (sender : Int32) (place : Int32) : Int32 :=
  if (C8_isSender sender) = 0 then
    (-1)
  else
    if 0 ≤ place then
      let sn := tN sender
      if (tN (M 1 (11 + sn))) ≤ (tN place) then
        (-5)
      else
        (M 1 ((109 + (20 * sn)) + (tN place)))
    else
      (-2)
def C8_noted (M : Nat → Nat → Int32) (rank : Int32) (what : Int32) : Int32 :=
  if rank < 0 then
    (-2)
  else
    if (C8_within what (nI 0) (nI 2)) = 0 then
      (-2)
    else
      let wh := tN what
      if 50 ≤ (tN rank) then
        (-5)
      else
        if (M 1 5) ≤ (nI (tN rank)) then
          (-5)
        else
          (M 1 ((169 + (3 * (tN rank))) + wh))
def C8_total (M : Nat → Nat → Int32) (what : Int32) : Int32 :=
  if what = nI 0 then
    (M 1 3)
  else
    if what = nI 1 then
      (M 1 4)
    else
      if what = nI 2 then
        ((M 1 11) + (M 1 12))
      else
        if what = nI 3 then
          (C8_fullStages M )
        else
          if what = nI 4 then
            (M 1 10)
          else
            if what = nI 5 then
              (M 1 90)
            else
              if what = nI 6 then
                (M 1 5)
              else
                if what = nI 7 then
                  (M 1 6)
                else
                  if what = nI 8 then
                    (M 1 7)
                  else
                    if what = nI 9 then
                      (M 1 8)
                    else
                      if what = nI 10 then
                        (M 1 0)
                      else
                        if what = nI 11 then
                          (M 1 1)
                        else
                          if what = nI 12 then
                            (M 1 2)
                          else
                            if what = nI 13 then
                              (M 0 0)
                            else
                              if what = nI 14 then
                                (M 0 2)
                              else
                                (-2)
def C8_next (M : Nat → Nat → Int32)  : Int32 :=
  if (C8_nextChange M ) = (-5) then
    (-5)
  else
    (C8_whenOf M (tN (C8_nextChange M )))
