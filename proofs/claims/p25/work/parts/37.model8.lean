theorem fr_push {M : Nat → Nat → Int32} {c : Nat} (h0 : c ≠ 0) (h3 : c ≠ 3) : C8_push M c = M c := by
  unfold C8_push
  split
  · dsimp only
    show setC _ 0 _ c = _
    rw [setC_ne h0, setC_ne h3]; show setC _ 0 _ c = _
    rw [setC_ne h0, setC_ne h3]
  · dsimp only
    show setC _ 0 _ c = _
    rw [setC_ne h0, setC_ne h3]
theorem fr_record {M : Nat → Nat → Int32} {c : Nat} (h0 : c ≠ 0) (h2 : c ≠ 2) (h3 : c ≠ 3) : C8_record M c = M c := by
  unfold C8_record
  rw [fr_push h0 h3]
  exact setC_ne h2
theorem fr_adds {M : Nat → Nat → Int32} {s w : Int32} {c : Nat} (hc : c ≠ 1) : (C8_adds M s w).2 c = M c := by
  unfold C8_adds
  repeat' split
  all_goals try dsimp only
  all_goals repeat' split
  all_goals try dsimp only
  all_goals first | rfl | (show C8_letGo _ c = _; rw [fr_letGo hc, fr_up hc, fr_up hc])
theorem fr_runs {M : Nat → Nat → Int32} {t : Int32} {c : Nat} (hc : c ≠ 1) : (C8_runs M t).2 c = M c := by
  unfold C8_runs
  repeat' split
  all_goals try dsimp only
  all_goals repeat' split
  all_goals try dsimp only
  all_goals first | rfl | exact fr_goTo hc
theorem fr_setsDelay {M : Nat → Nat → Int32} {a b d : Int32} {c : Nat} (hc : c ≠ 1) : (C8_setsDelay M a b d).2 c = M c := by
  unfold C8_setsDelay
  repeat' split
  all_goals try dsimp only
  all_goals repeat' split
  all_goals try dsimp only
  all_goals first | rfl | exact fr_up hc
def C8_recorded (M : Nat → Nat → Int32) (told : Int32) : Int32 × (Nat → Nat → Int32) :=
  if told < 0 then
    (told, M)
  else
    let V1 := (C8_push M )
    (told, V1)
def C8_add (M : Nat → Nat → Int32) (sender : Int32) (word : Int32) : Int32 × (Nat → Nat → Int32) :=
  let V1 := (C8_putAside M )
  let V2 := (C8_adds V1 sender word).2
  let V3 := (C8_recorded V2 ((C8_adds V1 sender word).1)).2
  (((C8_recorded V2 ((C8_adds V1 sender word).1)).1), V3)
def C8_run (M : Nat → Nat → Int32) (ticks : Int32) : Int32 × (Nat → Nat → Int32) :=
  let V1 := (C8_putAside M )
  let V2 := (C8_runs V1 ticks).2
  let V3 := (C8_recorded V2 ((C8_runs V1 ticks).1)).2
  (((C8_recorded V2 ((C8_runs V1 ticks).1)).1), V3)
def C8_setDelay (M : Nat → Nat → Int32) (link : Int32) (wire : Int32) (delay : Int32) : Int32 × (Nat → Nat → Int32) :=
  let V1 := (C8_putAside M )
  let V2 := (C8_setsDelay V1 link wire delay).2
  let V3 := (C8_recorded V2 ((C8_setsDelay V1 link wire delay).1)).2
  (((C8_recorded V2 ((C8_setsDelay V1 link wire delay).1)).1), V3)
def C8_build (M : Nat → Nat → Int32) (stages : Int32) : Int32 × (Nat → Nat → Int32) :=
  if (C8_within stages (nI 1) (nI 6)) = 0 then
    ((-2), M)
  else
    let V1 := (C8_record M )
    let V2 := (C8_clean V1 stages)
    ((((V1 1 11) + (V1 1 12)) + (C8_fullStages V1 )), V2)
def C8_set (M : Nat → Nat → Int32) (setting : Int32) (value : Int32) : Int32 × (Nat → Nat → Int32) :=
  if (C8_within setting (nI 0) (nI 2)) = 0 then
    ((-1), M)
  else
    if setting = (nI 2) then
      if (C8_within value (nI 0) (nI 1)) = 0 then
        ((-2), M)
      else
        let se := tN setting
        if (M 1 se) = value then
          ((-5), M)
        else
          let V3 := (C8_record M )
          let V4 := up1 V3 1 se value
          ((M 1 se), V4)
    else
      if (C8_within value (nI 0) (nI 20)) = 0 then
        ((-2), M)
      else
        let se := tN setting
        if (M 1 se) = value then
          ((-5), M)
        else
          let V1 := (C8_record M )
          let V2 := up1 V1 1 se value
          ((M 1 se), V2)
def C8_finish (M : Nat → Nat → Int32)  : Int32 × (Nat → Nat → Int32) :=
  if (M 1 10) = 0 then
    ((-5), M)
  else
    let V1 := (C8_putAside M )
    let V2 := (C8_settle V1 ).2
    if (V2 1 4) ≤ (nI 1000000) then
      let V3 := (C8_push V2 )
      (((C8_settle V1 ).1), V3)
    else
      let V4 := (C8_takeBack V2 )
      ((-3), V4)
def C8_quietIn (M : Nat → Nat → Int32)  : Int32 × (Nat → Nat → Int32) :=
  let V1 := (C8_putAside M )
  let V2 := (C8_settle V1 ).2
  let V3 := (C8_takeBack V2 )
  (((C8_settle V1 ).1), V3)
def C8_withLead (M : Nat → Nat → Int32) (lead : Int32) (what : Int32) : Int32 × (Nat → Nat → Int32) :=
  let V1 := (C8_putAside M )
  let V2 := up1 V1 1 0 lead
  let V3 := (C8_settle V2 ).2
  let V4 := (C8_takeBack V3 )
  if what = 0 then
    (((C8_settle V2 ).1), V4)
  else
    if what = (nI 1) then
      (((V3 1 5) - (V3 2 5)), V4)
    else
      (((((V3 1 5) - (V3 2 5)) - (V3 1 6)) + (V3 2 6)), V4)
def C8_ifLead (M : Nat → Nat → Int32) (lead : Int32) (what : Int32) : Int32 × (Nat → Nat → Int32) :=
  if (C8_within lead (nI 0) (nI 20)) = 0 then
    ((-2), M)
  else
    if (C8_within what (nI 0) (nI 2)) = 0 then
      ((-2), M)
    else
      let V1 := (C8_withLead M lead what).2
      (((C8_withLead M lead what).1), V1)
/-- the state after k leads were tried -/
def llS (M : Nat → Nat → Int32) : Nat → Nat → Nat → Int32
  | 0 => M
  | k + 1 => (C8_withLead (llS M k) (nI k) (nI 2)).2
def L8_leastLead  : Nat → Nat → (Nat → Nat → Int32) → Int32 × (Nat → Nat → Int32)
  | 0, k, M0 =>
      ((-5), M0)
  | q + 1, k, M0 =>
      let V1 := (C8_withLead M0 (nI k) (nI 2)).2
      if ((C8_withLead M0 (nI k) (nI 2)).1) = 0 then
        ((nI k), V1)
      else
        L8_leastLead q (k + 1) V1
def C8_leastLead (M : Nat → Nat → Int32)  : Int32 × (Nat → Nat → Int32) :=
  L8_leastLead (21) 0 M
def C8_clearText (M : Nat → Nat → Int32)  : Int32 × (Nat → Nat → Int32) :=
  let V1 := up1 M 0 2 (nI 0)
  ((M 0 2), V1)
def C8_type (M : Nat → Nat → Int32) (x : Int32) : Int32 × (Nat → Nat → Int32) :=
  if (tN (M 0 2)) = 60 then
    ((-3), M)
  else
    let V1 := up1 M 5 (tN (M 0 2)) x
    let V2 := up1 V1 0 2 ((V1 0 2) + (nI 1))
    ((V2 0 2), V2)
