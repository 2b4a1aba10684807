theorem cn_take {M : Nat → Nat → Int32} {k n : Nat} (hn : vp_in (M 1 10) n) (h : n < 900 := by decide) : vp_in (C8_take M k 1 10) (n + 3) := by
  have h1 := cn_answer (k := k) (x := nI 1) (y := nI 0) (cn_up (i := 103 + k) (x := C8_end (up1 M 1 (97 + k) (nI 1)) k 5) (by omega) (cn_up (i := 97 + k) (x := nI 1) (by omega) hn)) (show n < 1000 by omega)
  unfold C8_take
  split
  · exact cn_offer h1 (show n + 1 < 1000 by omega)
  · exact vp_mono h1 (by omega)
theorem e_setC {V : Nat → Nat → Int32} {c j n : Nat} {g : Nat → Int32} (h : g j = V c j) (hn : vp_in (V c j) n) : vp_in (setC V c g c j) n := by rw [setC_eq, h]; exact hn
def C8_note (M : Nat → Nat → Int32)  : Nat → Nat → Int32 :=
  if (C8_end M (tN (M 1 3)) 5) = (M 1 149) then
    let V14 := setC M 1 (shl (M 1) 149 19)
    let V15 := up1 V14 1 9 ((V14 1 9) - (nI 1))
    let V16 := setC V15 1 (sh3 (V15 1) 2)
    let V17 := up1 V16 1 169 (C8_end M (tN (M 1 3)) 5)
    let V18 := up1 V17 1 170 (V17 1 4)
    let V19 := up1 V18 1 171 (nI 1)
    let V20 := up1 V19 1 5 ((V19 1 5) + (nI 1))
    let V21 := up1 V20 1 6 ((V20 1 6) + (nI 1))
    let V22 := (C8_answer V21 (tN (M 1 3)) (nI 1) (V21 1 1))
    V22
  else
    let V1 := setC M 1 (shl (M 1) 149 19)
    let V2 := up1 V1 1 9 ((V1 1 9) - (nI 1))
    let V3 := setC V2 1 (sh3 (V2 1) 2)
    let V4 := up1 V3 1 169 (C8_end M (tN (M 1 3)) 5)
    let V5 := up1 V4 1 170 (V4 1 4)
    let V6 := up1 V5 1 171 (nI 0)
    let V7 := up1 V6 1 5 ((V6 1 5) + (nI 1))
    let V8 := up1 V7 1 6 ((V7 1 6) + (nI 0))
    let V9 := (C8_answer V8 (tN (M 1 3)) (nI 1) (V8 1 1))
    V9
