/-- all numbers 0 -/
abbrev z_1 : Nat → Int32 := fun _ => 0
abbrev z_2 : Nat → Nat → Int32 := fun _ _ => 0
/-- a line as it is made, ahead of its clearing; and behind it -/
def ln_0 : Nat → Nat → Int32 := setC z_2 1 (upd z_1 0 (nI 1))
def ln_N : Nat → Nat → Int32 := C2_clearTo ln_0 (nI 3)
def hs_0 : Nat → Nat → Int32 := fun c => if c = 1 then (fun k => nI k) else z_1
def fp_0 : Nat → Nat → Nat → Int32 := fun a => if a = 7 then z_2 else if a = 8 then hs_0 else ln_N
def mo_0 : Nat → Nat → Int32 := C8_clean (up1 z_2 1 0 (nI 1)) (nI 3)
def cn8 (h : Nat) (u : Nat → Nat → Nat) : Nat → Nat → Nat := fun a => if a = 8 then cns h (u 8) else u a
def cn82 (h : Nat) (u : Nat → Nat → Nat) : Nat → Nat → Nat := fun a => if a = 8 then (fun k => if k = 2 then h else u 8 k) else u a
set_option maxHeartbeats 4000000 in
set_option maxRecDepth 100000 in
theorem c_X3_init (l : Launch) (D : va_G) (Y : Nat → ClassId) (a : Nat) : CtN (S := Nat → Nat) l yX3_init wsX3_init 1 12 1 3 D (tyL Y) [[(a, .inr (3, [.null, .int 0, .int 0, .int 0, .int 0, .int 0, .int 0, .int 0, .int 0, .int 0]))]] [.ref a] (fun u => [lkB (Y 0) a (u 0) z_1 z_1]) := by
  refine CtN.intro (own := RX3) (cc := cX3_init) (maxL := 1) rfl rfl (by decide +kernel) rfl (Nat.le_of_ble_eq_true rfl) (fun p e s m args below meth c A Q hAe hQ hA hao hini cx hr => ?_)
  have hinX3 : ∀ w ∈ wsX30, w ∈ wsX3_init := by decide +kernel
  have f9 : Cond.fieldLink RX3 9 "FourPhases$Link" "delays" "[I" ∈ wsX3_init := by decide +kernel
  refine j_aload_n cx (pc := 0) dX3_init_0 0 rfl ?_
  refine j_objInit cx (pc := 1) (idx := 3) (by decide +kernel) (by decide +kernel) (by decide +kernel) dX3_init_1 (Nat.le_of_ble_eq_true rfl) (Nat.le_of_ble_eq_true rfl) ?_
  refine j_aload_n cx (pc := 4) dX3_init_4 0 rfl ?_
  refine j_iconst cx (pc := 5) (v := nI 3) dX3_init_5 (by decide) ?_
  refine j_newa cx (pc := 6) (ty := .int) rfl (by decide +kernel) 0 rfl rfl (ra_int _) hA (by decide) (Nat.le_of_ble_eq_true rfl) (Nat.le_of_ble_eq_true rfl) (Nat.le_of_ble_eq_true rfl) dX3_init_6 (fun q1 => ?_)
  refine j_bs (Bs' := [[(a, .inr (3, [.null, .int 0, .int 0, .int 0, .int 0, .int 0, .int 0, .int 0, .int 0, .int 0]))], [(q1, .inl (Y 0, 3, .inl (z_1)))]]) rfl ?_
  refine j_putF cx (pc := 8) hini 0 0 rfl rfl (C := RX3) (T := TX3) (N := 10) rfl hinX3 tyX3 tyX3_ok nmX3 0 (by decide) f9 rfl rfl rfl rfl (Nat.le_of_ble_eq_true rfl) (Bs' := [[(a, .inr (3, [.ref q1, .int 0, .int 0, .int 0, .int 0, .int 0, .int 0, .int 0, .int 0, .int 0]))], [(q1, .inl (Y 0, 3, .inl (z_1)))]]) rfl dX3_init_8 ?_
  refine j_flat (Bs' := [lkB (Y 0) a ((fun k => [q1].getD k 0) 0) z_1 z_1]) rfl ?_
  subst hQ; exact j_nret cx hr ((fun k => [q1].getD k 0)) rfl hAe dX3_init_11
set_option maxHeartbeats 4000000 in
set_option maxRecDepth 100000 in
theorem c_X5_init (l : Launch) (D : va_G) (Y : Nat → ClassId) (a : Nat) : CtN (S := Nat → Nat) l yX5_init wsX5_init 1 12 1 20 D (tyL Y) [[(a, .inr (5, [.null, .int 0]))]] [.ref a] (fun u => [rwB (Y 0) a (u 0) z_1 z_1]) := by
  refine CtN.intro (own := RX5) (cc := cX5_init) (maxL := 1) rfl rfl (by decide +kernel) rfl (Nat.le_of_ble_eq_true rfl) (fun p e s m args below meth c A Q hAe hQ hA hao hini cx hr => ?_)
  have hinX5 : ∀ w ∈ wsX50, w ∈ wsX5_init := by decide +kernel
  have f9 : Cond.fieldLink RX5 9 "FourPhases$Row" "words" "[I" ∈ wsX5_init := by decide +kernel
  refine j_aload_n cx (pc := 0) dX5_init_0 0 rfl ?_
  refine j_objInit cx (pc := 1) (idx := 3) (by decide +kernel) (by decide +kernel) (by decide +kernel) dX5_init_1 (Nat.le_of_ble_eq_true rfl) (Nat.le_of_ble_eq_true rfl) ?_
  refine j_aload_n cx (pc := 4) dX5_init_4 0 rfl ?_
  refine j_bipush cx (pc := 5) (v := nI 20) dX5_init_5 (by decide) ?_
  refine j_newa cx (pc := 7) (ty := .int) rfl (by decide +kernel) 0 rfl rfl (ra_int _) hA (by decide) (Nat.le_of_ble_eq_true rfl) (Nat.le_of_ble_eq_true rfl) (Nat.le_of_ble_eq_true rfl) dX5_init_7 (fun q1 => ?_)
  refine j_bs (Bs' := [[(a, .inr (5, [.null, .int 0]))], [(q1, .inl (Y 0, 20, .inl (z_1)))]]) rfl ?_
  refine j_putF cx (pc := 9) hini 0 0 rfl rfl (C := RX5) (T := TX5) (N := 2) rfl hinX5 tyX5 tyX5_ok nmX5 0 (by decide) f9 rfl rfl rfl rfl (Nat.le_of_ble_eq_true rfl) (Bs' := [[(a, .inr (5, [.ref q1, .int 0]))], [(q1, .inl (Y 0, 20, .inl (z_1)))]]) rfl dX5_init_9 ?_
  refine j_flat (Bs' := [rwB (Y 0) a ((fun k => [q1].getD k 0) 0) z_1 z_1]) rfl ?_
  subst hQ; exact j_nret cx hr ((fun k => [q1].getD k 0)) rfl hAe dX5_init_12
set_option maxHeartbeats 4000000 in
set_option maxRecDepth 100000 in
theorem c_X0_init (l : Launch) (D : va_G) (Y : Nat → ClassId) (a : Nat) : CtN (S := Nat → Nat) l yX0_init wsX0_init 1 12 2 128 D (tyL Y) [[(a, .inr (0, [.null, .null, .int 0, .int 0]))]] [.ref a] (fun u => [chB (Y 0) a (u 0) (u 1) z_1 z_1 z_1]) := by
  refine CtN.intro (own := RX0) (cc := cX0_init) (maxL := 1) rfl rfl (by decide +kernel) rfl (Nat.le_of_ble_eq_true rfl) (fun p e s m args below meth c A Q hAe hQ hA hao hini cx hr => ?_)
  have hinX0 : ∀ w ∈ wsX00, w ∈ wsX0_init := by decide +kernel
  have f9 : Cond.fieldLink RX0 9 "FourPhases$Changes" "times" "[I" ∈ wsX0_init := by decide +kernel
  have f15 : Cond.fieldLink RX0 15 "FourPhases$Changes" "signals" "[I" ∈ wsX0_init := by decide +kernel
  refine j_aload_n cx (pc := 0) dX0_init_0 0 rfl ?_
  refine j_objInit cx (pc := 1) (idx := 3) (by decide +kernel) (by decide +kernel) (by decide +kernel) dX0_init_1 (Nat.le_of_ble_eq_true rfl) (Nat.le_of_ble_eq_true rfl) ?_
  refine j_aload_n cx (pc := 4) dX0_init_4 0 rfl ?_
  refine j_bipush cx (pc := 5) (v := nI 64) dX0_init_5 (by decide) ?_
  refine j_newa cx (pc := 7) (ty := .int) rfl (by decide +kernel) 0 rfl rfl (ra_int _) hA (by decide) (Nat.le_of_ble_eq_true rfl) (Nat.le_of_ble_eq_true rfl) (Nat.le_of_ble_eq_true rfl) dX0_init_7 (fun q1 => ?_)
  refine j_bs (Bs' := [[(a, .inr (0, [.null, .null, .int 0, .int 0]))], [(q1, .inl (Y 0, 64, .inl (z_1)))]]) rfl ?_
  refine j_putF cx (pc := 9) hini 0 0 rfl rfl (C := RX0) (T := TX0) (N := 4) rfl hinX0 tyX0 tyX0_ok nmX0 0 (by decide) f9 rfl rfl rfl rfl (Nat.le_of_ble_eq_true rfl) (Bs' := [[(a, .inr (0, [.ref q1, .null, .int 0, .int 0]))], [(q1, .inl (Y 0, 64, .inl (z_1)))]]) rfl dX0_init_9 ?_
  refine j_aload_n cx (pc := 12) dX0_init_12 0 rfl ?_
  refine j_bipush cx (pc := 13) (v := nI 64) dX0_init_13 (by decide) ?_
  refine j_newa cx (pc := 15) (ty := .int) rfl (by decide +kernel) 0 rfl rfl (ra_int _) hA (by decide) (Nat.le_of_ble_eq_true rfl) (Nat.le_of_ble_eq_true rfl) (Nat.le_of_ble_eq_true rfl) dX0_init_15 (fun q2 => ?_)
  refine j_bs (Bs' := [[(a, .inr (0, [.ref q1, .null, .int 0, .int 0]))], [(q1, .inl (Y 0, 64, .inl (z_1)))], [(q2, .inl (Y 0, 64, .inl (z_1)))]]) rfl ?_
  refine j_putF cx (pc := 17) hini 0 0 rfl rfl (C := RX0) (T := TX0) (N := 4) rfl hinX0 tyX0 tyX0_ok nmX0 1 (by decide) f15 rfl rfl rfl rfl (Nat.le_of_ble_eq_true rfl) (Bs' := [[(a, .inr (0, [.ref q1, .ref q2, .int 0, .int 0]))], [(q1, .inl (Y 0, 64, .inl (z_1)))], [(q2, .inl (Y 0, 64, .inl (z_1)))]]) rfl dX0_init_17 ?_
  refine j_flat (Bs' := [chB (Y 0) a ((fun k => [q1, q2].getD k 0) 0) ((fun k => [q1, q2].getD k 0) 1) z_1 z_1 z_1]) rfl ?_
  subst hQ; exact j_nret cx hr ((fun k => [q1, q2].getD k 0)) rfl hAe dX0_init_20
set_option maxHeartbeats 4000000 in
set_option maxRecDepth 100000 in
theorem c_X4_init (l : Launch) (D : va_G) (Y : Nat → ClassId) (a : Nat) : CtN (S := Nat → Nat) l yX4_init wsX4_init 1 12 3 150 D (tyL Y) [[(a, .inr (4, [.null, .null, .null, .int 0, .int 0]))]] [.ref a] (fun u => [ntB (Y 0) a (u 0) (u 1) (u 2) z_1 z_1 z_1 z_1]) := by
  refine CtN.intro (own := RX4) (cc := cX4_init) (maxL := 1) rfl rfl (by decide +kernel) rfl (Nat.le_of_ble_eq_true rfl) (fun p e s m args below meth c A Q hAe hQ hA hao hini cx hr => ?_)
  have hinX4 : ∀ w ∈ wsX40, w ∈ wsX4_init := by decide +kernel
  have f9 : Cond.fieldLink RX4 9 "FourPhases$Notes" "words" "[I" ∈ wsX4_init := by decide +kernel
  have f15 : Cond.fieldLink RX4 15 "FourPhases$Notes" "times" "[I" ∈ wsX4_init := by decide +kernel
  have f18 : Cond.fieldLink RX4 18 "FourPhases$Notes" "rights" "[I" ∈ wsX4_init := by decide +kernel
  refine j_aload_n cx (pc := 0) dX4_init_0 0 rfl ?_
  refine j_objInit cx (pc := 1) (idx := 3) (by decide +kernel) (by decide +kernel) (by decide +kernel) dX4_init_1 (Nat.le_of_ble_eq_true rfl) (Nat.le_of_ble_eq_true rfl) ?_
  refine j_aload_n cx (pc := 4) dX4_init_4 0 rfl ?_
  refine j_bipush cx (pc := 5) (v := nI 50) dX4_init_5 (by decide) ?_
  refine j_newa cx (pc := 7) (ty := .int) rfl (by decide +kernel) 0 rfl rfl (ra_int _) hA (by decide) (Nat.le_of_ble_eq_true rfl) (Nat.le_of_ble_eq_true rfl) (Nat.le_of_ble_eq_true rfl) dX4_init_7 (fun q1 => ?_)
  refine j_bs (Bs' := [[(a, .inr (4, [.null, .null, .null, .int 0, .int 0]))], [(q1, .inl (Y 0, 50, .inl (z_1)))]]) rfl ?_
  refine j_putF cx (pc := 9) hini 0 0 rfl rfl (C := RX4) (T := TX4) (N := 5) rfl hinX4 tyX4 tyX4_ok nmX4 0 (by decide) f9 rfl rfl rfl rfl (Nat.le_of_ble_eq_true rfl) (Bs' := [[(a, .inr (4, [.ref q1, .null, .null, .int 0, .int 0]))], [(q1, .inl (Y 0, 50, .inl (z_1)))]]) rfl dX4_init_9 ?_
  refine j_aload_n cx (pc := 12) dX4_init_12 0 rfl ?_
  refine j_bipush cx (pc := 13) (v := nI 50) dX4_init_13 (by decide) ?_
  refine j_newa cx (pc := 15) (ty := .int) rfl (by decide +kernel) 0 rfl rfl (ra_int _) hA (by decide) (Nat.le_of_ble_eq_true rfl) (Nat.le_of_ble_eq_true rfl) (Nat.le_of_ble_eq_true rfl) dX4_init_15 (fun q2 => ?_)
  refine j_bs (Bs' := [[(a, .inr (4, [.ref q1, .null, .null, .int 0, .int 0]))], [(q1, .inl (Y 0, 50, .inl (z_1)))], [(q2, .inl (Y 0, 50, .inl (z_1)))]]) rfl ?_
  refine j_putF cx (pc := 17) hini 0 0 rfl rfl (C := RX4) (T := TX4) (N := 5) rfl hinX4 tyX4 tyX4_ok nmX4 1 (by decide) f15 rfl rfl rfl rfl (Nat.le_of_ble_eq_true rfl) (Bs' := [[(a, .inr (4, [.ref q1, .ref q2, .null, .int 0, .int 0]))], [(q1, .inl (Y 0, 50, .inl (z_1)))], [(q2, .inl (Y 0, 50, .inl (z_1)))]]) rfl dX4_init_17 ?_
  refine j_aload_n cx (pc := 20) dX4_init_20 0 rfl ?_
  refine j_bipush cx (pc := 21) (v := nI 50) dX4_init_21 (by decide) ?_
  refine j_newa cx (pc := 23) (ty := .int) rfl (by decide +kernel) 0 rfl rfl (ra_int _) hA (by decide) (Nat.le_of_ble_eq_true rfl) (Nat.le_of_ble_eq_true rfl) (Nat.le_of_ble_eq_true rfl) dX4_init_23 (fun q3 => ?_)
  refine j_bs (Bs' := [[(a, .inr (4, [.ref q1, .ref q2, .null, .int 0, .int 0]))], [(q1, .inl (Y 0, 50, .inl (z_1)))], [(q2, .inl (Y 0, 50, .inl (z_1)))], [(q3, .inl (Y 0, 50, .inl (z_1)))]]) rfl ?_
  refine j_putF cx (pc := 25) hini 0 0 rfl rfl (C := RX4) (T := TX4) (N := 5) rfl hinX4 tyX4 tyX4_ok nmX4 2 (by decide) f18 rfl rfl rfl rfl (Nat.le_of_ble_eq_true rfl) (Bs' := [[(a, .inr (4, [.ref q1, .ref q2, .ref q3, .int 0, .int 0]))], [(q1, .inl (Y 0, 50, .inl (z_1)))], [(q2, .inl (Y 0, 50, .inl (z_1)))], [(q3, .inl (Y 0, 50, .inl (z_1)))]]) rfl dX4_init_25 ?_
  refine j_flat (Bs' := [ntB (Y 0) a ((fun k => [q1, q2, q3].getD k 0) 0) ((fun k => [q1, q2, q3].getD k 0) 1) ((fun k => [q1, q2, q3].getD k 0) 2) z_1 z_1 z_1 z_1]) rfl ?_
  subst hQ; exact j_nret cx hr ((fun k => [q1, q2, q3].getD k 0)) rfl hAe dX4_init_28
set_option maxHeartbeats 4000000 in
set_option maxRecDepth 100000 in
theorem c_X6_init (l : Launch) (D : va_G) (Y : Nat → ClassId) (a : Nat) : CtN (S := Nat → Nat) l yX6_init wsX6_init 1 12 4 120 D (tyL Y) [[(a, .inr (6, [.null, .int 0, .null, .null, .null, .int 0, .int 0]))]] [.ref a] (fun u => [txB Y (cns a u) z_2]) := by
  refine CtN.intro (own := RX6) (cc := cX6_init) (maxL := 1) rfl rfl (by decide +kernel) rfl (Nat.le_of_ble_eq_true rfl) (fun p e s m args below meth c A Q hAe hQ hA hao hini cx hr => ?_)
  have hinX6 : ∀ w ∈ wsX60, w ∈ wsX6_init := by decide +kernel
  have f9 : Cond.fieldLink RX6 9 "FourPhases$Text" "characters" "[I" ∈ wsX6_init := by decide +kernel
  have f15 : Cond.fieldLink RX6 15 "FourPhases$Text" "letters" "[I" ∈ wsX6_init := by decide +kernel
  have f18 : Cond.fieldLink RX6 18 "FourPhases$Text" "targets" "[I" ∈ wsX6_init := by decide +kernel
  have f21 : Cond.fieldLink RX6 21 "FourPhases$Text" "values" "[I" ∈ wsX6_init := by decide +kernel
  refine j_aload_n cx (pc := 0) dX6_init_0 0 rfl ?_
  refine j_objInit cx (pc := 1) (idx := 3) (by decide +kernel) (by decide +kernel) (by decide +kernel) dX6_init_1 (Nat.le_of_ble_eq_true rfl) (Nat.le_of_ble_eq_true rfl) ?_
  refine j_aload_n cx (pc := 4) dX6_init_4 0 rfl ?_
  refine j_bipush cx (pc := 5) (v := nI 60) dX6_init_5 (by decide) ?_
  refine j_newa cx (pc := 7) (ty := .int) rfl (by decide +kernel) 0 rfl rfl (ra_int _) hA (by decide) (Nat.le_of_ble_eq_true rfl) (Nat.le_of_ble_eq_true rfl) (Nat.le_of_ble_eq_true rfl) dX6_init_7 (fun q1 => ?_)
  refine j_bs (Bs' := [[(a, .inr (6, [.null, .int 0, .null, .null, .null, .int 0, .int 0]))], [(q1, .inl (Y 0, 60, .inl (z_1)))]]) rfl ?_
  refine j_putF cx (pc := 9) hini 0 0 rfl rfl (C := RX6) (T := TX6) (N := 7) rfl hinX6 tyX6 tyX6_ok nmX6 0 (by decide) f9 rfl rfl rfl rfl (Nat.le_of_ble_eq_true rfl) (Bs' := [[(a, .inr (6, [.ref q1, .int 0, .null, .null, .null, .int 0, .int 0]))], [(q1, .inl (Y 0, 60, .inl (z_1)))]]) rfl dX6_init_9 ?_
  refine j_aload_n cx (pc := 12) dX6_init_12 0 rfl ?_
  refine j_bipush cx (pc := 13) (v := nI 20) dX6_init_13 (by decide) ?_
  refine j_newa cx (pc := 15) (ty := .int) rfl (by decide +kernel) 0 rfl rfl (ra_int _) hA (by decide) (Nat.le_of_ble_eq_true rfl) (Nat.le_of_ble_eq_true rfl) (Nat.le_of_ble_eq_true rfl) dX6_init_15 (fun q2 => ?_)
  refine j_bs (Bs' := [[(a, .inr (6, [.ref q1, .int 0, .null, .null, .null, .int 0, .int 0]))], [(q1, .inl (Y 0, 60, .inl (z_1)))], [(q2, .inl (Y 0, 20, .inl (z_1)))]]) rfl ?_
  refine j_putF cx (pc := 17) hini 0 0 rfl rfl (C := RX6) (T := TX6) (N := 7) rfl hinX6 tyX6 tyX6_ok nmX6 2 (by decide) f15 rfl rfl rfl rfl (Nat.le_of_ble_eq_true rfl) (Bs' := [[(a, .inr (6, [.ref q1, .int 0, .ref q2, .null, .null, .int 0, .int 0]))], [(q1, .inl (Y 0, 60, .inl (z_1)))], [(q2, .inl (Y 0, 20, .inl (z_1)))]]) rfl dX6_init_17 ?_
  refine j_aload_n cx (pc := 20) dX6_init_20 0 rfl ?_
  refine j_bipush cx (pc := 21) (v := nI 20) dX6_init_21 (by decide) ?_
  refine j_newa cx (pc := 23) (ty := .int) rfl (by decide +kernel) 0 rfl rfl (ra_int _) hA (by decide) (Nat.le_of_ble_eq_true rfl) (Nat.le_of_ble_eq_true rfl) (Nat.le_of_ble_eq_true rfl) dX6_init_23 (fun q3 => ?_)
  refine j_bs (Bs' := [[(a, .inr (6, [.ref q1, .int 0, .ref q2, .null, .null, .int 0, .int 0]))], [(q1, .inl (Y 0, 60, .inl (z_1)))], [(q2, .inl (Y 0, 20, .inl (z_1)))], [(q3, .inl (Y 0, 20, .inl (z_1)))]]) rfl ?_
  refine j_putF cx (pc := 25) hini 0 0 rfl rfl (C := RX6) (T := TX6) (N := 7) rfl hinX6 tyX6 tyX6_ok nmX6 3 (by decide) f18 rfl rfl rfl rfl (Nat.le_of_ble_eq_true rfl) (Bs' := [[(a, .inr (6, [.ref q1, .int 0, .ref q2, .ref q3, .null, .int 0, .int 0]))], [(q1, .inl (Y 0, 60, .inl (z_1)))], [(q2, .inl (Y 0, 20, .inl (z_1)))], [(q3, .inl (Y 0, 20, .inl (z_1)))]]) rfl dX6_init_25 ?_
  refine j_aload_n cx (pc := 28) dX6_init_28 0 rfl ?_
  refine j_bipush cx (pc := 29) (v := nI 20) dX6_init_29 (by decide) ?_
  refine j_newa cx (pc := 31) (ty := .int) rfl (by decide +kernel) 0 rfl rfl (ra_int _) hA (by decide) (Nat.le_of_ble_eq_true rfl) (Nat.le_of_ble_eq_true rfl) (Nat.le_of_ble_eq_true rfl) dX6_init_31 (fun q4 => ?_)
  refine j_bs (Bs' := [[(a, .inr (6, [.ref q1, .int 0, .ref q2, .ref q3, .null, .int 0, .int 0]))], [(q1, .inl (Y 0, 60, .inl (z_1)))], [(q2, .inl (Y 0, 20, .inl (z_1)))], [(q3, .inl (Y 0, 20, .inl (z_1)))], [(q4, .inl (Y 0, 20, .inl (z_1)))]]) rfl ?_
  refine j_putF cx (pc := 33) hini 0 0 rfl rfl (C := RX6) (T := TX6) (N := 7) rfl hinX6 tyX6 tyX6_ok nmX6 4 (by decide) f21 rfl rfl rfl rfl (Nat.le_of_ble_eq_true rfl) (Bs' := [[(a, .inr (6, [.ref q1, .int 0, .ref q2, .ref q3, .ref q4, .int 0, .int 0]))], [(q1, .inl (Y 0, 60, .inl (z_1)))], [(q2, .inl (Y 0, 20, .inl (z_1)))], [(q3, .inl (Y 0, 20, .inl (z_1)))], [(q4, .inl (Y 0, 20, .inl (z_1)))]]) rfl dX6_init_33 ?_
  refine j_flat (Bs' := [txB Y (cns a (fun k => [0, q1, q2, q3, q4].getD k 0)) z_2]) rfl ?_
  subst hQ; exact j_nret cx hr ((fun k => [0, q1, q2, q3, q4].getD k 0)) rfl hAe dX6_init_36
