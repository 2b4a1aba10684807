theorem fr_push {M : Nat → Nat → Int32} {c : Nat} (h0 : c ≠ 0) (h3 : c ≠ 3) : C8_push M c = M c := by
  unfold C8_push
  split
  · dsimp only
    show setC _ 0 _ c = _
    rw [setC_ne h0, setC_ne h3]; show setC _ 0 _ c = _
    rw [setC_ne h0, setC_ne h3]
  · dsimp only
    show setC _ 0 _ c = _
    rw [setC_ne h0, setC_ne h3]
theorem fr_record {M : Nat → Nat → Int32} {c : Nat} (h0 : c ≠ 0) (h2 : c ≠ 2) (h3 : c ≠ 3) : C8_record M c = M c := by
  unfold C8_record
  rw [fr_push h0 h3]
  exact setC_ne h2
theorem fr_adds {M : Nat → Nat → Int32} {s w : Int32} {c : Nat} (hc : c ≠ 1) : (C8_adds M s w).2 c = M c := by
  unfold C8_adds
  repeat' split
  all_goals try dsimp only
  all_goals repeat' split
  all_goals try dsimp only
  all_goals first | rfl | (show C8_letGo _ c = _; rw [fr_letGo hc, fr_up hc, fr_up hc])
theorem fr_runs {M : Nat → Nat → Int32} {t : Int32} {c : Nat} (hc : c ≠ 1) : (C8_runs M t).2 c = M c := by
  unfold C8_runs
  repeat' split
  all_goals try dsimp only
  all_goals repeat' split
  all_goals try dsimp only
  all_goals first | rfl | exact fr_goTo hc
theorem fr_setsDelay {M : Nat → Nat → Int32} {a b d : Int32} {c : Nat} (hc : c ≠ 1) : (C8_setsDelay M a b d).2 c = M c := by
  unfold C8_setsDelay
  repeat' split
  all_goals try dsimp only
  all_goals repeat' split
  all_goals try dsimp only
  all_goals first | rfl | exact fr_up hc
def C8_recorded (M : Nat → Nat → Int32) (told : Int32) : Int32 × (Nat → Nat → Int32) :=
  if told < 0 then
    (told, M)
  else
    let V1 := (C8_push M )
    (told, V1)
set_option maxHeartbeats 4000000 in
set_option maxRecDepth 100000 in
theorem c_X8_recorded (l : Launch) (D : va_G) (Y : Nat → ClassId) (mo : Nat → Nat) (M : Nat → Nat → Int32) (told : Int32) (hs : vp_in (M 0 0) 5) : CtI l yX8_recorded wsX8_recorded 1 21 D (tyL Y) ([moB Y mo M]) [.ref (mo 0), .int told] (C8_recorded M told).1 ([moB Y mo (C8_recorded M told).2]) := by
  refine CtI.intro (own := RX8) (cc := cX8_recorded) (maxL := 2) rfl (by decide +kernel) rfl (Nat.le_of_ble_eq_true rfl) (fun p e s m args below meth c A Q hA hQ cx hr => ?_)
  refine j_iload_n cx (pc := 0) dX8_recorded_0 1 rfl ?_
  refine j_if_lt cx (pc := 1) (tgt := 8) dX8_recorded_1 (by decide) (fun c1_1 => ?_) (fun c1_1 => ?_)
  · skip
    refine j_iload_n cx (pc := 8) dX8_recorded_8 1 rfl ?_
    subst hQ; exact j_iret cx hr (by simp only [C8_recorded, if_pos c1_1]) (by simp only [C8_recorded, if_pos c1_1]) hA dX8_recorded_9
  · skip
    refine j_aload_n cx (pc := 4) dX8_recorded_4 0 rfl ?_
    obtain ⟨V1, hV1⟩ : ∃ z, z = (C8_push M ) := ⟨_, rfl⟩
    refine j_callv cx (pc := 5) 0 (c_X8_push l D Y mo M  hs) gX8_recorded_X8_push rfl (by decide +kernel) rfl ⟨Nat.le_of_ble_eq_true rfl, Nat.le_of_ble_eq_true rfl⟩ [0] rfl (by decide) (Bs' := [moB Y mo V1]) (by rw [hV1]; exact P1_mo M (C8_push M )) A1_mo 0 0 rfl rfl rfl rfl (Nat.le_of_ble_eq_true rfl) dX8_recorded_5 ⟨Nat.zero_le _, Nat.zero_le _⟩ ?_
    refine j_iload_n cx (pc := 8) dX8_recorded_8 1 rfl ?_
    subst hQ; exact j_iret cx hr (by subst hV1; simp only [C8_recorded, if_neg c1_1]) (by subst hV1; simp only [C8_recorded, if_neg c1_1]) hA dX8_recorded_9
def C8_add (M : Nat → Nat → Int32) (sender : Int32) (word : Int32) : Int32 × (Nat → Nat → Int32) :=
  let V1 := (C8_putAside M )
  let V2 := (C8_adds V1 sender word).2
  let V3 := (C8_recorded V2 ((C8_adds V1 sender word).1)).2
  (((C8_recorded V2 ((C8_adds V1 sender word).1)).1), V3)
set_option maxHeartbeats 4000000 in
set_option maxRecDepth 100000 in
theorem c_X8_add (l : Launch) (D : va_G) (Y : Nat → ClassId) (mo : Nat → Nat) (M : Nat → Nat → Int32) (sender : Int32) (word : Int32) (hm0 : vp_in (M 1 11) 21) (hm1 : vp_in (M 1 12) 21) (hpd : vp_in (M 1 9) 20) (hn : vp_in (M 1 10) 99) (hs : vp_in (M 0 0) 5) : CtI l yX8_add wsX8_add 4 96 D (tyL Y) ([moB Y mo M]) [.ref (mo 0), .int sender, .int word] (C8_add M sender word).1 ([moB Y mo (C8_add M sender word).2]) := by
  refine CtI.intro (own := RX8) (cc := cX8_add) (maxL := 3) rfl (by decide +kernel) rfl (Nat.le_of_ble_eq_true rfl) (fun p e s m args below meth c A Q hA hQ cx hr => ?_)
  refine j_aload_n cx (pc := 0) dX8_add_0 0 rfl ?_
  obtain ⟨V1, hV1⟩ : ∃ z, z = (C8_putAside M ) := ⟨_, rfl⟩
  refine j_callv cx (pc := 1) 0 (c_X8_putAside l D Y mo M  ) gX8_add_X8_putAside rfl (by decide +kernel) rfl ⟨Nat.le_of_ble_eq_true rfl, Nat.le_of_ble_eq_true rfl⟩ [0] rfl (by decide) (Bs' := [moB Y mo V1]) (by rw [hV1]; exact P1_mo M (C8_putAside M )) A1_mo 0 0 rfl rfl rfl rfl (Nat.le_of_ble_eq_true rfl) dX8_add_1 ⟨Nat.zero_le _, Nat.zero_le _⟩ ?_
  refine j_aload_n cx (pc := 4) dX8_add_4 0 rfl ?_
  refine j_aload_n cx (pc := 5) dX8_add_5 0 rfl ?_
  refine j_iload_n cx (pc := 6) dX8_add_6 1 rfl ?_
  refine j_iload_n cx (pc := 7) dX8_add_7 2 rfl ?_
  obtain ⟨V2, hV2⟩ : ∃ z, z = (C8_adds V1 sender word).2 := ⟨_, rfl⟩
  refine j_calli cx (pc := 8) 2 (c_X8_adds l D Y mo V1 sender word (by rw [hV1]; (repeat first | rw [fr_settle (by decide)] | rw [fr_adds (by decide)] | rw [fr_runs (by decide)] | rw [fr_setsDelay (by decide)] | rw [fr_record (by decide) (by decide) (by decide)] | rw [up1_in (by omega)] | rw [fr_up (by decide)]); exact hm0) (by rw [hV1]; (repeat first | rw [fr_settle (by decide)] | rw [fr_adds (by decide)] | rw [fr_runs (by decide)] | rw [fr_setsDelay (by decide)] | rw [fr_record (by decide) (by decide) (by decide)] | rw [up1_in (by omega)] | rw [fr_up (by decide)]); exact hm1) (by rw [hV1]; (repeat first | rw [fr_settle (by decide)] | rw [fr_adds (by decide)] | rw [fr_runs (by decide)] | rw [fr_setsDelay (by decide)] | rw [fr_record (by decide) (by decide) (by decide)] | rw [up1_in (by omega)] | rw [fr_up (by decide)]); exact hpd) (by rw [hV1]; (repeat first | rw [fr_settle (by decide)] | rw [fr_adds (by decide)] | rw [fr_runs (by decide)] | rw [fr_setsDelay (by decide)] | rw [fr_record (by decide) (by decide) (by decide)] | rw [up1_in (by omega)] | rw [fr_up (by decide)]); exact hn)) gX8_add_X8_adds rfl (by decide +kernel) rfl ⟨Nat.le_of_ble_eq_true rfl, Nat.le_of_ble_eq_true rfl⟩ [0] rfl (by decide) (Bs' := [moB Y mo V2]) (by rw [hV2]; exact P1_mo V1 (C8_adds V1 sender word).2) A1_mo 0 0 rfl rfl rfl rfl (Nat.le_of_ble_eq_true rfl) dX8_add_8 ⟨Nat.zero_le _, Nat.zero_le _⟩ ?_
  obtain ⟨V3, hV3⟩ : ∃ z, z = (C8_recorded V2 ((C8_adds V1 sender word).1)).2 := ⟨_, rfl⟩
  refine j_calli cx (pc := 11) 1 (c_X8_recorded l D Y mo V2 ((C8_adds V1 sender word).1) (by rw [hV2]; (repeat first | rw [fr_settle (by decide)] | rw [fr_adds (by decide)] | rw [fr_runs (by decide)] | rw [fr_setsDelay (by decide)] | rw [fr_record (by decide) (by decide) (by decide)] | rw [up1_in (by omega)] | rw [fr_up (by decide)]); rw [hV1]; (repeat first | rw [fr_settle (by decide)] | rw [fr_adds (by decide)] | rw [fr_runs (by decide)] | rw [fr_setsDelay (by decide)] | rw [fr_record (by decide) (by decide) (by decide)] | rw [up1_in (by omega)] | rw [fr_up (by decide)]); exact hs)) gX8_add_X8_recorded rfl (by decide +kernel) rfl ⟨Nat.le_of_ble_eq_true rfl, Nat.le_of_ble_eq_true rfl⟩ [0] rfl (by decide) (Bs' := [moB Y mo V3]) (by rw [hV3]; exact P1_mo V2 (C8_recorded V2 ((C8_adds V1 sender word).1)).2) A1_mo 0 0 rfl rfl rfl rfl (Nat.le_of_ble_eq_true rfl) dX8_add_11 ⟨Nat.zero_le _, Nat.zero_le _⟩ ?_
  subst hQ; exact j_iret cx hr (by subst hV3; subst hV2; subst hV1; rfl) (by subst hV3; subst hV2; subst hV1; rfl) hA dX8_add_14
def C8_run (M : Nat → Nat → Int32) (ticks : Int32) : Int32 × (Nat → Nat → Int32) :=
  let V1 := (C8_putAside M )
  let V2 := (C8_runs V1 ticks).2
  let V3 := (C8_recorded V2 ((C8_runs V1 ticks).1)).2
  (((C8_recorded V2 ((C8_runs V1 ticks).1)).1), V3)
set_option maxHeartbeats 4000000 in
set_option maxRecDepth 100000 in
theorem c_X8_run (l : Launch) (D : va_G) (Y : Nat → ClassId) (mo : Nat → Nat) (M : Nat → Nat → Int32) (ticks : Int32) (hok : ¬ C8_within ticks (nI 1) (nI 1000) = 0 → (C8_putAside M 1 4) + ticks ≤ nI 1000000 → gtoOK ((C8_putAside M 1 4) + ticks) 5000 (C8_putAside M)) (hs : vp_in (M 0 0) 5) : CtI l yX8_run wsX8_run 7 166 D (tyL Y) ([moB Y mo M]) [.ref (mo 0), .int ticks] (C8_run M ticks).1 ([moB Y mo (C8_run M ticks).2]) := by
  refine CtI.intro (own := RX8) (cc := cX8_run) (maxL := 2) rfl (by decide +kernel) rfl (Nat.le_of_ble_eq_true rfl) (fun p e s m args below meth c A Q hA hQ cx hr => ?_)
  refine j_aload_n cx (pc := 0) dX8_run_0 0 rfl ?_
  obtain ⟨V1, hV1⟩ : ∃ z, z = (C8_putAside M ) := ⟨_, rfl⟩
  refine j_callv cx (pc := 1) 0 (c_X8_putAside l D Y mo M  ) gX8_run_X8_putAside rfl (by decide +kernel) rfl ⟨Nat.le_of_ble_eq_true rfl, Nat.le_of_ble_eq_true rfl⟩ [0] rfl (by decide) (Bs' := [moB Y mo V1]) (by rw [hV1]; exact P1_mo M (C8_putAside M )) A1_mo 0 0 rfl rfl rfl rfl (Nat.le_of_ble_eq_true rfl) dX8_run_1 ⟨Nat.zero_le _, Nat.zero_le _⟩ ?_
  refine j_aload_n cx (pc := 4) dX8_run_4 0 rfl ?_
  refine j_aload_n cx (pc := 5) dX8_run_5 0 rfl ?_
  refine j_iload_n cx (pc := 6) dX8_run_6 1 rfl ?_
  obtain ⟨V2, hV2⟩ : ∃ z, z = (C8_runs V1 ticks).2 := ⟨_, rfl⟩
  refine j_calli cx (pc := 7) 1 (c_X8_runs l D Y mo V1 ticks (by rw [hV1]; (repeat first | rw [fr_settle (by decide)] | rw [fr_adds (by decide)] | rw [fr_runs (by decide)] | rw [fr_setsDelay (by decide)] | rw [fr_record (by decide) (by decide) (by decide)] | rw [up1_in (by omega)] | rw [fr_up (by decide)]); exact hok)) gX8_run_X8_runs rfl (by decide +kernel) rfl ⟨Nat.le_of_ble_eq_true rfl, Nat.le_of_ble_eq_true rfl⟩ [0] rfl (by decide) (Bs' := [moB Y mo V2]) (by rw [hV2]; exact P1_mo V1 (C8_runs V1 ticks).2) A1_mo 0 0 rfl rfl rfl rfl (Nat.le_of_ble_eq_true rfl) dX8_run_7 ⟨Nat.zero_le _, Nat.zero_le _⟩ ?_
  obtain ⟨V3, hV3⟩ : ∃ z, z = (C8_recorded V2 ((C8_runs V1 ticks).1)).2 := ⟨_, rfl⟩
  refine j_calli cx (pc := 10) 1 (c_X8_recorded l D Y mo V2 ((C8_runs V1 ticks).1) (by rw [hV2]; (repeat first | rw [fr_settle (by decide)] | rw [fr_adds (by decide)] | rw [fr_runs (by decide)] | rw [fr_setsDelay (by decide)] | rw [fr_record (by decide) (by decide) (by decide)] | rw [up1_in (by omega)] | rw [fr_up (by decide)]); rw [hV1]; (repeat first | rw [fr_settle (by decide)] | rw [fr_adds (by decide)] | rw [fr_runs (by decide)] | rw [fr_setsDelay (by decide)] | rw [fr_record (by decide) (by decide) (by decide)] | rw [up1_in (by omega)] | rw [fr_up (by decide)]); exact hs)) gX8_run_X8_recorded rfl (by decide +kernel) rfl ⟨Nat.le_of_ble_eq_true rfl, Nat.le_of_ble_eq_true rfl⟩ [0] rfl (by decide) (Bs' := [moB Y mo V3]) (by rw [hV3]; exact P1_mo V2 (C8_recorded V2 ((C8_runs V1 ticks).1)).2) A1_mo 0 0 rfl rfl rfl rfl (Nat.le_of_ble_eq_true rfl) dX8_run_10 ⟨Nat.zero_le _, Nat.zero_le _⟩ ?_
  subst hQ; exact j_iret cx hr (by subst hV3; subst hV2; subst hV1; rfl) (by subst hV3; subst hV2; subst hV1; rfl) hA dX8_run_13
def C8_setDelay (M : Nat → Nat → Int32) (link : Int32) (wire : Int32) (delay : Int32) : Int32 × (Nat → Nat → Int32) :=
  let V1 := (C8_putAside M )
  let V2 := (C8_setsDelay V1 link wire delay).2
  let V3 := (C8_recorded V2 ((C8_setsDelay V1 link wire delay).1)).2
  (((C8_recorded V2 ((C8_setsDelay V1 link wire delay).1)).1), V3)
set_option maxHeartbeats 4000000 in
set_option maxRecDepth 100000 in
theorem c_X8_setDelay (l : Launch) (D : va_G) (Y : Nat → ClassId) (mo : Nat → Nat) (M : Nat → Nat → Int32) (link : Int32) (wire : Int32) (delay : Int32) (hst : vp_in (M 1 3) 7) (hs : vp_in (M 0 0) 5) : CtI l yX8_setDelay wsX8_setDelay 3 68 D (tyL Y) ([moB Y mo M]) [.ref (mo 0), .int link, .int wire, .int delay] (C8_setDelay M link wire delay).1 ([moB Y mo (C8_setDelay M link wire delay).2]) := by
  refine CtI.intro (own := RX8) (cc := cX8_setDelay) (maxL := 4) rfl (by decide +kernel) rfl (Nat.le_of_ble_eq_true rfl) (fun p e s m args below meth c A Q hA hQ cx hr => ?_)
  refine j_aload_n cx (pc := 0) dX8_setDelay_0 0 rfl ?_
  obtain ⟨V1, hV1⟩ : ∃ z, z = (C8_putAside M ) := ⟨_, rfl⟩
  refine j_callv cx (pc := 1) 0 (c_X8_putAside l D Y mo M  ) gX8_setDelay_X8_putAside rfl (by decide +kernel) rfl ⟨Nat.le_of_ble_eq_true rfl, Nat.le_of_ble_eq_true rfl⟩ [0] rfl (by decide) (Bs' := [moB Y mo V1]) (by rw [hV1]; exact P1_mo M (C8_putAside M )) A1_mo 0 0 rfl rfl rfl rfl (Nat.le_of_ble_eq_true rfl) dX8_setDelay_1 ⟨Nat.zero_le _, Nat.zero_le _⟩ ?_
  refine j_aload_n cx (pc := 4) dX8_setDelay_4 0 rfl ?_
  refine j_aload_n cx (pc := 5) dX8_setDelay_5 0 rfl ?_
  refine j_iload_n cx (pc := 6) dX8_setDelay_6 1 rfl ?_
  refine j_iload_n cx (pc := 7) dX8_setDelay_7 2 rfl ?_
  refine j_iload_n cx (pc := 8) dX8_setDelay_8 3 rfl ?_
  obtain ⟨V2, hV2⟩ : ∃ z, z = (C8_setsDelay V1 link wire delay).2 := ⟨_, rfl⟩
  refine j_calli cx (pc := 9) 3 (c_X8_setsDelay l D Y mo V1 link wire delay (by rw [hV1]; (repeat first | rw [fr_settle (by decide)] | rw [fr_adds (by decide)] | rw [fr_runs (by decide)] | rw [fr_setsDelay (by decide)] | rw [fr_record (by decide) (by decide) (by decide)] | rw [up1_in (by omega)] | rw [fr_up (by decide)]); exact hst)) gX8_setDelay_X8_setsDelay rfl (by decide +kernel) rfl ⟨Nat.le_of_ble_eq_true rfl, Nat.le_of_ble_eq_true rfl⟩ [0] rfl (by decide) (Bs' := [moB Y mo V2]) (by rw [hV2]; exact P1_mo V1 (C8_setsDelay V1 link wire delay).2) A1_mo 0 0 rfl rfl rfl rfl (Nat.le_of_ble_eq_true rfl) dX8_setDelay_9 ⟨Nat.zero_le _, Nat.zero_le _⟩ ?_
  obtain ⟨V3, hV3⟩ : ∃ z, z = (C8_recorded V2 ((C8_setsDelay V1 link wire delay).1)).2 := ⟨_, rfl⟩
  refine j_calli cx (pc := 12) 1 (c_X8_recorded l D Y mo V2 ((C8_setsDelay V1 link wire delay).1) (by rw [hV2]; (repeat first | rw [fr_settle (by decide)] | rw [fr_adds (by decide)] | rw [fr_runs (by decide)] | rw [fr_setsDelay (by decide)] | rw [fr_record (by decide) (by decide) (by decide)] | rw [up1_in (by omega)] | rw [fr_up (by decide)]); rw [hV1]; (repeat first | rw [fr_settle (by decide)] | rw [fr_adds (by decide)] | rw [fr_runs (by decide)] | rw [fr_setsDelay (by decide)] | rw [fr_record (by decide) (by decide) (by decide)] | rw [up1_in (by omega)] | rw [fr_up (by decide)]); exact hs)) gX8_setDelay_X8_recorded rfl (by decide +kernel) rfl ⟨Nat.le_of_ble_eq_true rfl, Nat.le_of_ble_eq_true rfl⟩ [0] rfl (by decide) (Bs' := [moB Y mo V3]) (by rw [hV3]; exact P1_mo V2 (C8_recorded V2 ((C8_setsDelay V1 link wire delay).1)).2) A1_mo 0 0 rfl rfl rfl rfl (Nat.le_of_ble_eq_true rfl) dX8_setDelay_12 ⟨Nat.zero_le _, Nat.zero_le _⟩ ?_
  subst hQ; exact j_iret cx hr (by subst hV3; subst hV2; subst hV1; rfl) (by subst hV3; subst hV2; subst hV1; rfl) hA dX8_setDelay_15
def C8_build (M : Nat → Nat → Int32) (stages : Int32) : Int32 × (Nat → Nat → Int32) :=
  if (C8_within stages (nI 1) (nI 6)) = 0 then
    ((-2), M)
  else
    let V1 := (C8_record M )
    let V2 := (C8_clean V1 stages)
    ((((V1 1 11) + (V1 1 12)) + (C8_fullStages V1 )), V2)
set_option maxHeartbeats 4000000 in
set_option maxRecDepth 100000 in
theorem c_X8_build (l : Launch) (D : va_G) (Y : Nat → ClassId) (mo : Nat → Nat) (M : Nat → Nat → Int32) (stages : Int32) (hs : vp_in (M 0 0) 5) : CtI l yX8_build wsX8_build 2 41 D (tyL Y) ([moB Y mo M]) [.ref (mo 0), .int stages] (C8_build M stages).1 ([moB Y mo (C8_build M stages).2]) := by
  refine CtI.intro (own := RX8) (cc := cX8_build) (maxL := 3) rfl (by decide +kernel) rfl (Nat.le_of_ble_eq_true rfl) (fun p e s m args below meth c A Q hA hQ cx hr => ?_)
  have hinX8 : ∀ w ∈ wsX80, w ∈ wsX8_build := by decide +kernel
  have f7 : Cond.fieldLink RX8 7 "FourPhasesModel" "state" "[I" ∈ wsX8_build := by decide +kernel
  refine j_iload_n cx (pc := 0) dX8_build_0 1 rfl ?_
  refine j_iconst cx (pc := 1) (v := (nI 1)) dX8_build_1 (by decide) ?_
  refine j_bipush cx (pc := 2) (v := (nI 6)) dX8_build_2 (by decide) ?_
  refine j_calls cx (pc := 4) 3 (c_X8_within l D Y stages (nI 1) (nI 6) ) gX8_build_X8_within rfl (by decide +kernel) rfl ⟨Nat.le_of_ble_eq_true rfl, Nat.le_of_ble_eq_true rfl⟩ rfl (Nat.le_of_ble_eq_true rfl) dX8_build_4 ⟨Nat.zero_le _, Nat.zero_le _⟩ ?_
  refine j_if_ne cx (pc := 7) (tgt := 13) dX8_build_7 (by decide) (fun c7_1 => ?_) (fun c7_1 => ?_)
  · skip
    refine j_aload_n cx (pc := 13) dX8_build_13 0 rfl ?_
    obtain ⟨V1, hV1⟩ : ∃ z, z = (C8_record M ) := ⟨_, rfl⟩
    refine j_callv cx (pc := 14) 0 (c_X8_record l D Y mo M  hs) gX8_build_X8_record rfl (by decide +kernel) rfl ⟨Nat.le_of_ble_eq_true rfl, Nat.le_of_ble_eq_true rfl⟩ [0] rfl (by decide) (Bs' := [moB Y mo V1]) (by rw [hV1]; exact P1_mo M (C8_record M )) A1_mo 0 0 rfl rfl rfl rfl (Nat.le_of_ble_eq_true rfl) dX8_build_14 ⟨Nat.zero_le _, Nat.zero_le _⟩ ?_
    refine j_aload_n cx (pc := 17) dX8_build_17 0 rfl ?_
    refine j_get cx (pc := 18) 0 0 rfl rfl (C := RX8) (T := TX8) (N := 12) rfl hinX8 0 (by decide) f7 rfl (v := .ref (mo 1)) rfl dX8_build_18 ?_
    refine j_bipush cx (pc := 21) (v := (nI 11)) dX8_build_21 (by decide) ?_
    refine j_iald cx (pc := 23) 0 1 0 rfl rfl rfl (by decide) (by decide) dX8_build_23 ?_
    refine j_aload_n cx (pc := 24) dX8_build_24 0 rfl ?_
    refine j_get cx (pc := 25) 0 0 rfl rfl (C := RX8) (T := TX8) (N := 12) rfl hinX8 0 (by decide) f7 rfl (v := .ref (mo 1)) rfl dX8_build_25 ?_
    refine j_bipush cx (pc := 28) (v := (nI 12)) dX8_build_28 (by decide) ?_
    refine j_iald cx (pc := 30) 0 1 0 rfl rfl rfl (by decide) (by decide) dX8_build_30 ?_
    refine j_iadd cx (pc := 31) dX8_build_31 ?_
    refine j_aload_n cx (pc := 32) dX8_build_32 0 rfl ?_
    refine j_calli cx (pc := 33) 0 (c_X8_fullStages l D Y mo V1  ) gX8_build_X8_fullStages rfl (by decide +kernel) rfl ⟨Nat.le_of_ble_eq_true rfl, Nat.le_of_ble_eq_true rfl⟩ [0] rfl (by decide) (Bs' := [moB Y mo V1]) rfl rfl 0 0 rfl rfl rfl rfl (Nat.le_of_ble_eq_true rfl) dX8_build_33 ⟨Nat.zero_le _, Nat.zero_le _⟩ ?_
    refine j_iadd cx (pc := 36) dX8_build_36 ?_
    refine j_istore_n cx (pc := 37) (lv' := [(2, .int (((V1 1 11) + (V1 1 12)) + (C8_fullStages V1 ))), (0, .ref (mo 0)), (1, .int stages)]) dX8_build_37 (by decide) rfl ?_
    refine j_aload_n cx (pc := 38) dX8_build_38 1 rfl ?_
    refine j_iload_n cx (pc := 39) dX8_build_39 2 rfl ?_
    obtain ⟨V2, hV2⟩ : ∃ z, z = (C8_clean V1 stages) := ⟨_, rfl⟩
    refine j_callv cx (pc := 40) 1 (c_X8_clean l D Y mo V1 stages ) gX8_build_X8_clean rfl (by decide +kernel) rfl ⟨Nat.le_of_ble_eq_true rfl, Nat.le_of_ble_eq_true rfl⟩ [0] rfl (by decide) (Bs' := [moB Y mo V2]) (by rw [hV2]; exact P1_mo V1 (C8_clean V1 stages)) A1_mo 0 0 rfl rfl rfl rfl (Nat.le_of_ble_eq_true rfl) dX8_build_40 ⟨Nat.zero_le _, Nat.zero_le _⟩ ?_
    refine j_iload_n cx (pc := 43) dX8_build_43 0 rfl ?_
    subst hQ; exact j_iret cx hr (by subst hV2; subst hV1; simp only [C8_build, if_neg c7_1]) (by subst hV2; subst hV1; simp only [C8_build, if_neg c7_1]) hA dX8_build_44
  · skip
    refine j_bipush cx (pc := 10) (v := (-2)) dX8_build_10 (by decide) ?_
    subst hQ; exact j_iret cx hr (by simp only [C8_build, if_pos c7_1]) (by simp only [C8_build, if_pos c7_1]) hA dX8_build_12
def C8_set (M : Nat → Nat → Int32) (setting : Int32) (value : Int32) : Int32 × (Nat → Nat → Int32) :=
  if (C8_within setting (nI 0) (nI 2)) = 0 then
    ((-1), M)
  else
    if setting = (nI 2) then
      if (C8_within value (nI 0) (nI 1)) = 0 then
        ((-2), M)
      else
        let se := tN setting
        if (M 1 se) = value then
          ((-5), M)
        else
          let V3 := (C8_record M )
          let V4 := up1 V3 1 se value
          ((M 1 se), V4)
    else
      if (C8_within value (nI 0) (nI 20)) = 0 then
        ((-2), M)
      else
        let se := tN setting
        if (M 1 se) = value then
          ((-5), M)
        else
          let V1 := (C8_record M )
          let V2 := up1 V1 1 se value
          ((M 1 se), V2)
set_option maxHeartbeats 4000000 in
set_option maxRecDepth 100000 in
theorem c_X8_set (l : Launch) (D : va_G) (Y : Nat → ClassId) (mo : Nat → Nat) (M : Nat → Nat → Int32) (setting : Int32) (value : Int32) (hs : vp_in (M 0 0) 5) : CtI l yX8_set wsX8_set 2 41 D (tyL Y) ([moB Y mo M]) [.ref (mo 0), .int setting, .int value] (C8_set M setting value).1 ([moB Y mo (C8_set M setting value).2]) := by
  refine CtI.intro (own := RX8) (cc := cX8_set) (maxL := 4) rfl (by decide +kernel) rfl (Nat.le_of_ble_eq_true rfl) (fun p e s m args below meth c A Q hA hQ cx hr => ?_)
  have hinX8 : ∀ w ∈ wsX80, w ∈ wsX8_set := by decide +kernel
  have f7 : Cond.fieldLink RX8 7 "FourPhasesModel" "state" "[I" ∈ wsX8_set := by decide +kernel
  refine j_iload_n cx (pc := 0) dX8_set_0 1 rfl ?_
  refine j_iconst cx (pc := 1) (v := (nI 0)) dX8_set_1 (by decide) ?_
  refine j_iconst cx (pc := 2) (v := (nI 2)) dX8_set_2 (by decide) ?_
  refine j_calls cx (pc := 3) 3 (c_X8_within l D Y setting (nI 0) (nI 2) ) gX8_set_X8_within rfl (by decide +kernel) rfl ⟨Nat.le_of_ble_eq_true rfl, Nat.le_of_ble_eq_true rfl⟩ rfl (Nat.le_of_ble_eq_true rfl) dX8_set_3 ⟨Nat.zero_le _, Nat.zero_le _⟩ ?_
  refine j_if_ne cx (pc := 6) (tgt := 11) dX8_set_6 (by decide) (fun c6_1 => ?_) (fun c6_1 => ?_)
  · skip
    refine j_iload_n cx (pc := 11) dX8_set_11 2 rfl ?_
    refine j_iconst cx (pc := 12) (v := (nI 0)) dX8_set_12 (by decide) ?_
    refine j_iload_n cx (pc := 13) dX8_set_13 1 rfl ?_
    refine j_iconst cx (pc := 14) (v := (nI 2)) dX8_set_14 (by decide) ?_
    refine j_icmp_ne cx (pc := 15) (tgt := 22) dX8_set_15 (by decide) (fun c15_2 => ?_) (fun c15_2 => ?_)
    · skip
      refine j_bipush cx (pc := 22) (v := (nI 20)) dX8_set_22 (by decide) ?_
      refine j_calls cx (pc := 24) 3 (c_X8_within l D Y value (nI 0) (nI 20) ) gX8_set_X8_within rfl (by decide +kernel) rfl ⟨Nat.le_of_ble_eq_true rfl, Nat.le_of_ble_eq_true rfl⟩ rfl (Nat.le_of_ble_eq_true rfl) dX8_set_24 ⟨Nat.zero_le _, Nat.zero_le _⟩ ?_
      refine j_if_ne cx (pc := 27) (tgt := 33) dX8_set_27 (by decide) (fun c27_3 => ?_) (fun c27_3 => ?_)
      · skip
        obtain ⟨se, hse⟩ : ∃ z : Nat, z = tN setting := ⟨_, rfl⟩
        have se0 := wi_ok (a := 0) (b := 2) (by decide) (by first | decide | omega) c6_1
        have se1 : setting = nI se := by rw [hse]; exact se0.1
        have se2 : 0 ≤ se ∧ se ≤ 2 := by rw [hse]; exact ⟨se0.2.1, se0.2.2⟩
        refine j_aload_n cx (pc := 33) dX8_set_33 0 rfl ?_
        refine j_get cx (pc := 34) 0 0 rfl rfl (C := RX8) (T := TX8) (N := 12) rfl hinX8 0 (by decide) f7 rfl (v := .ref (mo 1)) rfl dX8_set_34 ?_
        refine j_iload_n cx (pc := 37) dX8_set_37 1 rfl ?_
        refine j_top (show setting = (nI se) from se1) ?_
        refine j_iald cx (pc := 38) 0 1 0 rfl rfl rfl (by omega) (by decide) dX8_set_38 ?_
        refine j_istore_n cx (pc := 39) (lv' := [(3, .int (M 1 se)), (0, .ref (mo 0)), (1, .int setting), (2, .int value)]) dX8_set_39 (by decide) rfl ?_
        refine j_iload_n cx (pc := 40) dX8_set_40 0 rfl ?_
        refine j_iload_n cx (pc := 41) dX8_set_41 3 rfl ?_
        refine j_icmp_ne cx (pc := 42) (tgt := 48) dX8_set_42 (by decide) (fun c42_4 => ?_) (fun c42_4 => ?_)
        · skip
          refine j_aload_n cx (pc := 48) dX8_set_48 1 rfl ?_
          obtain ⟨V1, hV1⟩ : ∃ z, z = (C8_record M ) := ⟨_, rfl⟩
          refine j_callv cx (pc := 49) 0 (c_X8_record l D Y mo M  hs) gX8_set_X8_record rfl (by decide +kernel) rfl ⟨Nat.le_of_ble_eq_true rfl, Nat.le_of_ble_eq_true rfl⟩ [0] rfl (by decide) (Bs' := [moB Y mo V1]) (by rw [hV1]; exact P1_mo M (C8_record M )) A1_mo 0 0 rfl rfl rfl rfl (Nat.le_of_ble_eq_true rfl) dX8_set_49 ⟨Nat.zero_le _, Nat.zero_le _⟩ ?_
          refine j_aload_n cx (pc := 52) dX8_set_52 1 rfl ?_
          refine j_get cx (pc := 53) 0 0 rfl rfl (C := RX8) (T := TX8) (N := 12) rfl hinX8 0 (by decide) f7 rfl (v := .ref (mo 1)) rfl dX8_set_53 ?_
          refine j_iload_n cx (pc := 56) dX8_set_56 2 rfl ?_
          refine j_top (show setting = (nI se) from se1) ?_
          refine j_iload_n cx (pc := 57) dX8_set_57 3 rfl ?_
          obtain ⟨V2, hV2⟩ : ∃ z, z = up1 V1 1 se value := ⟨_, rfl⟩
          refine j_iast cx (pc := 58) 0 1 0 rfl rfl rfl (by omega) (by decide) (Bs' := [moB Y mo V2]) (by rw [hV2]; rfl) dX8_set_58 ?_
          refine j_iload_n cx (pc := 59) dX8_set_59 0 rfl ?_
          subst hQ; exact j_iret cx hr (by subst hV2; subst hV1; subst hse; simp only [C8_set, if_neg c6_1, if_neg c15_2, if_neg c27_3, if_neg c42_4]) (by subst hV2; subst hV1; subst hse; simp only [C8_set, if_neg c6_1, if_neg c15_2, if_neg c27_3, if_neg c42_4]) hA dX8_set_60
        · skip
          refine j_bipush cx (pc := 45) (v := (-5)) dX8_set_45 (by decide) ?_
          subst hQ; exact j_iret cx hr (by subst hse; simp only [C8_set, if_neg c6_1, if_neg c15_2, if_neg c27_3, if_pos c42_4]) (by subst hse; simp only [C8_set, if_neg c6_1, if_neg c15_2, if_neg c27_3, if_pos c42_4]) hA dX8_set_47
      · skip
        refine j_bipush cx (pc := 30) (v := (-2)) dX8_set_30 (by decide) ?_
        subst hQ; exact j_iret cx hr (by simp only [C8_set, if_neg c6_1, if_neg c15_2, if_pos c27_3]) (by simp only [C8_set, if_neg c6_1, if_neg c15_2, if_pos c27_3]) hA dX8_set_32
    · skip
      refine j_iconst cx (pc := 18) (v := (nI 1)) dX8_set_18 (by decide) ?_
      refine j_goto cx (pc := 19) (tgt := 24) dX8_set_19 (by decide) ?_
      refine j_calls cx (pc := 24) 3 (c_X8_within l D Y value (nI 0) (nI 1) ) gX8_set_X8_within rfl (by decide +kernel) rfl ⟨Nat.le_of_ble_eq_true rfl, Nat.le_of_ble_eq_true rfl⟩ rfl (Nat.le_of_ble_eq_true rfl) dX8_set_24 ⟨Nat.zero_le _, Nat.zero_le _⟩ ?_
      refine j_if_ne cx (pc := 27) (tgt := 33) dX8_set_27 (by decide) (fun c27_5 => ?_) (fun c27_5 => ?_)
      · skip
        obtain ⟨se, hse⟩ : ∃ z : Nat, z = tN setting := ⟨_, rfl⟩
        have se0 := wi_ok (a := 0) (b := 2) (by decide) (by first | decide | omega) c6_1
        have se1 : setting = nI se := by rw [hse]; exact se0.1
        have se2 : 0 ≤ se ∧ se ≤ 2 := by rw [hse]; exact ⟨se0.2.1, se0.2.2⟩
        refine j_aload_n cx (pc := 33) dX8_set_33 0 rfl ?_
        refine j_get cx (pc := 34) 0 0 rfl rfl (C := RX8) (T := TX8) (N := 12) rfl hinX8 0 (by decide) f7 rfl (v := .ref (mo 1)) rfl dX8_set_34 ?_
        refine j_iload_n cx (pc := 37) dX8_set_37 1 rfl ?_
        refine j_top (show setting = (nI se) from se1) ?_
        refine j_iald cx (pc := 38) 0 1 0 rfl rfl rfl (by omega) (by decide) dX8_set_38 ?_
        refine j_istore_n cx (pc := 39) (lv' := [(3, .int (M 1 se)), (0, .ref (mo 0)), (1, .int setting), (2, .int value)]) dX8_set_39 (by decide) rfl ?_
        refine j_iload_n cx (pc := 40) dX8_set_40 0 rfl ?_
        refine j_iload_n cx (pc := 41) dX8_set_41 3 rfl ?_
        refine j_icmp_ne cx (pc := 42) (tgt := 48) dX8_set_42 (by decide) (fun c42_6 => ?_) (fun c42_6 => ?_)
        · skip
          refine j_aload_n cx (pc := 48) dX8_set_48 1 rfl ?_
          obtain ⟨V3, hV3⟩ : ∃ z, z = (C8_record M ) := ⟨_, rfl⟩
          refine j_callv cx (pc := 49) 0 (c_X8_record l D Y mo M  hs) gX8_set_X8_record rfl (by decide +kernel) rfl ⟨Nat.le_of_ble_eq_true rfl, Nat.le_of_ble_eq_true rfl⟩ [0] rfl (by decide) (Bs' := [moB Y mo V3]) (by rw [hV3]; exact P1_mo M (C8_record M )) A1_mo 0 0 rfl rfl rfl rfl (Nat.le_of_ble_eq_true rfl) dX8_set_49 ⟨Nat.zero_le _, Nat.zero_le _⟩ ?_
          refine j_aload_n cx (pc := 52) dX8_set_52 1 rfl ?_
          refine j_get cx (pc := 53) 0 0 rfl rfl (C := RX8) (T := TX8) (N := 12) rfl hinX8 0 (by decide) f7 rfl (v := .ref (mo 1)) rfl dX8_set_53 ?_
          refine j_iload_n cx (pc := 56) dX8_set_56 2 rfl ?_
          refine j_top (show setting = (nI se) from se1) ?_
          refine j_iload_n cx (pc := 57) dX8_set_57 3 rfl ?_
          obtain ⟨V4, hV4⟩ : ∃ z, z = up1 V3 1 se value := ⟨_, rfl⟩
          refine j_iast cx (pc := 58) 0 1 0 rfl rfl rfl (by omega) (by decide) (Bs' := [moB Y mo V4]) (by rw [hV4]; rfl) dX8_set_58 ?_
          refine j_iload_n cx (pc := 59) dX8_set_59 0 rfl ?_
          subst hQ; exact j_iret cx hr (by subst hV4; subst hV3; subst hse; simp only [C8_set, if_neg c6_1, if_pos c15_2, if_neg c27_5, if_neg c42_6]) (by subst hV4; subst hV3; subst hse; simp only [C8_set, if_neg c6_1, if_pos c15_2, if_neg c27_5, if_neg c42_6]) hA dX8_set_60
        · skip
          refine j_bipush cx (pc := 45) (v := (-5)) dX8_set_45 (by decide) ?_
          subst hQ; exact j_iret cx hr (by subst hse; simp only [C8_set, if_neg c6_1, if_pos c15_2, if_neg c27_5, if_pos c42_6]) (by subst hse; simp only [C8_set, if_neg c6_1, if_pos c15_2, if_neg c27_5, if_pos c42_6]) hA dX8_set_47
      · skip
        refine j_bipush cx (pc := 30) (v := (-2)) dX8_set_30 (by decide) ?_
        subst hQ; exact j_iret cx hr (by simp only [C8_set, if_neg c6_1, if_pos c15_2, if_pos c27_5]) (by simp only [C8_set, if_neg c6_1, if_pos c15_2, if_pos c27_5]) hA dX8_set_32
  · skip
    refine j_iconst cx (pc := 9) (v := (-1)) dX8_set_9 (by decide) ?_
    subst hQ; exact j_iret cx hr (by simp only [C8_set, if_pos c6_1]) (by simp only [C8_set, if_pos c6_1]) hA dX8_set_10
def C8_finish (M : Nat → Nat → Int32)  : Int32 × (Nat → Nat → Int32) :=
  if (M 1 10) = 0 then
    ((-5), M)
  else
    let V1 := (C8_putAside M )
    let V2 := (C8_settle V1 ).2
    if (V2 1 4) ≤ (nI 1000000) then
      let V3 := (C8_push V2 )
      (((C8_settle V1 ).1), V3)
    else
      let V4 := (C8_takeBack V2 )
      ((-3), V4)
set_option maxHeartbeats 4000000 in
set_option maxRecDepth 100000 in
theorem c_X8_finish (l : Launch) (D : va_G) (Y : Nat → ClassId) (mo : Nat → Nat) (M : Nat → Nat → Int32)  (hok : ¬ (M 1 10) = 0 → setOK 5000 (C8_putAside M)) (hs : vp_in (M 0 0) 5) : CtI l yX8_finish wsX8_finish 6 144 D (tyL Y) ([moB Y mo M]) [.ref (mo 0)] (C8_finish M ).1 ([moB Y mo (C8_finish M ).2]) := by
  refine CtI.intro (own := RX8) (cc := cX8_finish) (maxL := 2) rfl (by decide +kernel) rfl (Nat.le_of_ble_eq_true rfl) (fun p e s m args below meth c A Q hA hQ cx hr => ?_)
  have hinX8 : ∀ w ∈ wsX80, w ∈ wsX8_finish := by decide +kernel
  have f7 : Cond.fieldLink RX8 7 "FourPhasesModel" "state" "[I" ∈ wsX8_finish := by decide +kernel
  refine j_aload_n cx (pc := 0) dX8_finish_0 0 rfl ?_
  refine j_get cx (pc := 1) 0 0 rfl rfl (C := RX8) (T := TX8) (N := 12) rfl hinX8 0 (by decide) f7 rfl (v := .ref (mo 1)) rfl dX8_finish_1 ?_
  refine j_bipush cx (pc := 4) (v := (nI 10)) dX8_finish_4 (by decide) ?_
  refine j_iald cx (pc := 6) 0 1 0 rfl rfl rfl (by decide) (by decide) dX8_finish_6 ?_
  refine j_if_ne cx (pc := 7) (tgt := 13) dX8_finish_7 (by decide) (fun c7_1 => ?_) (fun c7_1 => ?_)
  · skip
    refine j_aload_n cx (pc := 13) dX8_finish_13 0 rfl ?_
    obtain ⟨V1, hV1⟩ : ∃ z, z = (C8_putAside M ) := ⟨_, rfl⟩
    refine j_callv cx (pc := 14) 0 (c_X8_putAside l D Y mo M  ) gX8_finish_X8_putAside rfl (by decide +kernel) rfl ⟨Nat.le_of_ble_eq_true rfl, Nat.le_of_ble_eq_true rfl⟩ [0] rfl (by decide) (Bs' := [moB Y mo V1]) (by rw [hV1]; exact P1_mo M (C8_putAside M )) A1_mo 0 0 rfl rfl rfl rfl (Nat.le_of_ble_eq_true rfl) dX8_finish_14 ⟨Nat.zero_le _, Nat.zero_le _⟩ ?_
    refine j_aload_n cx (pc := 17) dX8_finish_17 0 rfl ?_
    obtain ⟨V2, hV2⟩ : ∃ z, z = (C8_settle V1 ).2 := ⟨_, rfl⟩
    refine j_calli cx (pc := 18) 0 (c_X8_settle l D Y mo V1  (by rw [hV1]; exact hok c7_1)) gX8_finish_X8_settle rfl (by decide +kernel) rfl ⟨Nat.le_of_ble_eq_true rfl, Nat.le_of_ble_eq_true rfl⟩ [0] rfl (by decide) (Bs' := [moB Y mo V2]) (by rw [hV2]; exact P1_mo V1 (C8_settle V1 ).2) A1_mo 0 0 rfl rfl rfl rfl (Nat.le_of_ble_eq_true rfl) dX8_finish_18 ⟨Nat.zero_le _, Nat.zero_le _⟩ ?_
    refine j_istore_n cx (pc := 21) (lv' := [(1, .int ((C8_settle V1 ).1)), (0, .ref (mo 0))]) dX8_finish_21 (by decide) rfl ?_
    refine j_aload_n cx (pc := 22) dX8_finish_22 1 rfl ?_
    refine j_get cx (pc := 23) 0 0 rfl rfl (C := RX8) (T := TX8) (N := 12) rfl hinX8 0 (by decide) f7 rfl (v := .ref (mo 1)) rfl dX8_finish_23 ?_
    refine j_iconst cx (pc := 26) (v := (nI 4)) dX8_finish_26 (by decide) ?_
    refine j_iald cx (pc := 27) 0 1 0 rfl rfl rfl (by decide) (by decide) dX8_finish_27 ?_
    refine j_ldc cx (pc := 28) (v := (nI 1000000)) (show Cond.constant RX8 99 (1000000) ∈ wsX8_finish from by decide +kernel) dX8_finish_28 ?_
    refine j_icmp_le cx (pc := 30) (tgt := 40) dX8_finish_30 (by decide) (fun c30_2 => ?_) (fun c30_2 => ?_)
    · skip
      refine j_aload_n cx (pc := 40) dX8_finish_40 1 rfl ?_
      obtain ⟨V3, hV3⟩ : ∃ z, z = (C8_push V2 ) := ⟨_, rfl⟩
      refine j_callv cx (pc := 41) 0 (c_X8_push l D Y mo V2  (by rw [hV2]; (repeat first | rw [fr_settle (by decide)] | rw [fr_adds (by decide)] | rw [fr_runs (by decide)] | rw [fr_setsDelay (by decide)] | rw [fr_record (by decide) (by decide) (by decide)] | rw [up1_in (by omega)] | rw [fr_up (by decide)]); rw [hV1]; (repeat first | rw [fr_settle (by decide)] | rw [fr_adds (by decide)] | rw [fr_runs (by decide)] | rw [fr_setsDelay (by decide)] | rw [fr_record (by decide) (by decide) (by decide)] | rw [up1_in (by omega)] | rw [fr_up (by decide)]); exact hs)) gX8_finish_X8_push rfl (by decide +kernel) rfl ⟨Nat.le_of_ble_eq_true rfl, Nat.le_of_ble_eq_true rfl⟩ [0] rfl (by decide) (Bs' := [moB Y mo V3]) (by rw [hV3]; exact P1_mo V2 (C8_push V2 )) A1_mo 0 0 rfl rfl rfl rfl (Nat.le_of_ble_eq_true rfl) dX8_finish_41 ⟨Nat.zero_le _, Nat.zero_le _⟩ ?_
      refine j_iload_n cx (pc := 44) dX8_finish_44 0 rfl ?_
      subst hQ; exact j_iret cx hr (by subst hV3; subst hV2; subst hV1; simp only [C8_finish, if_neg c7_1, if_pos c30_2]) (by subst hV3; subst hV2; subst hV1; simp only [C8_finish, if_neg c7_1, if_pos c30_2]) hA dX8_finish_45
    · skip
      refine j_aload_n cx (pc := 33) dX8_finish_33 1 rfl ?_
      obtain ⟨V4, hV4⟩ : ∃ z, z = (C8_takeBack V2 ) := ⟨_, rfl⟩
      refine j_callv cx (pc := 34) 0 (c_X8_takeBack l D Y mo V2  ) gX8_finish_X8_takeBack rfl (by decide +kernel) rfl ⟨Nat.le_of_ble_eq_true rfl, Nat.le_of_ble_eq_true rfl⟩ [0] rfl (by decide) (Bs' := [moB Y mo V4]) (by rw [hV4]; exact P1_mo V2 (C8_takeBack V2 )) A1_mo 0 0 rfl rfl rfl rfl (Nat.le_of_ble_eq_true rfl) dX8_finish_34 ⟨Nat.zero_le _, Nat.zero_le _⟩ ?_
      refine j_bipush cx (pc := 37) (v := (-3)) dX8_finish_37 (by decide) ?_
      subst hQ; exact j_iret cx hr (by subst hV4; subst hV2; subst hV1; simp only [C8_finish, if_neg c7_1, if_neg c30_2]) (by subst hV4; subst hV2; subst hV1; simp only [C8_finish, if_neg c7_1, if_neg c30_2]) hA dX8_finish_39
  · skip
    refine j_bipush cx (pc := 10) (v := (-5)) dX8_finish_10 (by decide) ?_
    subst hQ; exact j_iret cx hr (by simp only [C8_finish, if_pos c7_1]) (by simp only [C8_finish, if_pos c7_1]) hA dX8_finish_12
def C8_quietIn (M : Nat → Nat → Int32)  : Int32 × (Nat → Nat → Int32) :=
  let V1 := (C8_putAside M )
  let V2 := (C8_settle V1 ).2
  let V3 := (C8_takeBack V2 )
  (((C8_settle V1 ).1), V3)
set_option maxHeartbeats 4000000 in
set_option maxRecDepth 100000 in
theorem c_X8_quietIn (l : Launch) (D : va_G) (Y : Nat → ClassId) (mo : Nat → Nat) (M : Nat → Nat → Int32)  (hok : setOK 5000 (C8_putAside M)) : CtI l yX8_quietIn wsX8_quietIn 6 144 D (tyL Y) ([moB Y mo M]) [.ref (mo 0)] (C8_quietIn M ).1 ([moB Y mo (C8_quietIn M ).2]) := by
  refine CtI.intro (own := RX8) (cc := cX8_quietIn) (maxL := 2) rfl (by decide +kernel) rfl (Nat.le_of_ble_eq_true rfl) (fun p e s m args below meth c A Q hA hQ cx hr => ?_)
  refine j_aload_n cx (pc := 0) dX8_quietIn_0 0 rfl ?_
  obtain ⟨V1, hV1⟩ : ∃ z, z = (C8_putAside M ) := ⟨_, rfl⟩
  refine j_callv cx (pc := 1) 0 (c_X8_putAside l D Y mo M  ) gX8_quietIn_X8_putAside rfl (by decide +kernel) rfl ⟨Nat.le_of_ble_eq_true rfl, Nat.le_of_ble_eq_true rfl⟩ [0] rfl (by decide) (Bs' := [moB Y mo V1]) (by rw [hV1]; exact P1_mo M (C8_putAside M )) A1_mo 0 0 rfl rfl rfl rfl (Nat.le_of_ble_eq_true rfl) dX8_quietIn_1 ⟨Nat.zero_le _, Nat.zero_le _⟩ ?_
  refine j_aload_n cx (pc := 4) dX8_quietIn_4 0 rfl ?_
  obtain ⟨V2, hV2⟩ : ∃ z, z = (C8_settle V1 ).2 := ⟨_, rfl⟩
  refine j_calli cx (pc := 5) 0 (c_X8_settle l D Y mo V1  (by rw [hV1]; exact hok)) gX8_quietIn_X8_settle rfl (by decide +kernel) rfl ⟨Nat.le_of_ble_eq_true rfl, Nat.le_of_ble_eq_true rfl⟩ [0] rfl (by decide) (Bs' := [moB Y mo V2]) (by rw [hV2]; exact P1_mo V1 (C8_settle V1 ).2) A1_mo 0 0 rfl rfl rfl rfl (Nat.le_of_ble_eq_true rfl) dX8_quietIn_5 ⟨Nat.zero_le _, Nat.zero_le _⟩ ?_
  refine j_istore_n cx (pc := 8) (lv' := [(1, .int ((C8_settle V1 ).1)), (0, .ref (mo 0))]) dX8_quietIn_8 (by decide) rfl ?_
  refine j_aload_n cx (pc := 9) dX8_quietIn_9 1 rfl ?_
  obtain ⟨V3, hV3⟩ : ∃ z, z = (C8_takeBack V2 ) := ⟨_, rfl⟩
  refine j_callv cx (pc := 10) 0 (c_X8_takeBack l D Y mo V2  ) gX8_quietIn_X8_takeBack rfl (by decide +kernel) rfl ⟨Nat.le_of_ble_eq_true rfl, Nat.le_of_ble_eq_true rfl⟩ [0] rfl (by decide) (Bs' := [moB Y mo V3]) (by rw [hV3]; exact P1_mo V2 (C8_takeBack V2 )) A1_mo 0 0 rfl rfl rfl rfl (Nat.le_of_ble_eq_true rfl) dX8_quietIn_10 ⟨Nat.zero_le _, Nat.zero_le _⟩ ?_
  refine j_iload_n cx (pc := 13) dX8_quietIn_13 0 rfl ?_
  subst hQ; exact j_iret cx hr (by subst hV3; subst hV2; subst hV1; rfl) (by subst hV3; subst hV2; subst hV1; rfl) hA dX8_quietIn_14
def C8_withLead (M : Nat → Nat → Int32) (lead : Int32) (what : Int32) : Int32 × (Nat → Nat → Int32) :=
  let V1 := (C8_putAside M )
  let V2 := up1 V1 1 0 lead
  let V3 := (C8_settle V2 ).2
  let V4 := (C8_takeBack V3 )
  if what = 0 then
    (((C8_settle V2 ).1), V4)
  else
    if what = (nI 1) then
      (((V3 1 5) - (V3 2 5)), V4)
    else
      (((((V3 1 5) - (V3 2 5)) - (V3 1 6)) + (V3 2 6)), V4)
set_option maxHeartbeats 4000000 in
set_option maxRecDepth 100000 in
theorem c_X8_withLead (l : Launch) (D : va_G) (Y : Nat → ClassId) (mo : Nat → Nat) (M : Nat → Nat → Int32) (lead : Int32) (what : Int32) (hok : setOK 5000 (up1 (C8_putAside M) 1 0 lead)) : CtI l yX8_withLead wsX8_withLead 6 144 D (tyL Y) ([moB Y mo M]) [.ref (mo 0), .int lead, .int what] (C8_withLead M lead what).1 ([moB Y mo (C8_withLead M lead what).2]) := by
  refine CtI.intro (own := RX8) (cc := cX8_withLead) (maxL := 6) rfl (by decide +kernel) rfl (Nat.le_of_ble_eq_true rfl) (fun p e s m args below meth c A Q hA hQ cx hr => ?_)
  have hinX8 : ∀ w ∈ wsX80, w ∈ wsX8_withLead := by decide +kernel
  have f7 : Cond.fieldLink RX8 7 "FourPhasesModel" "state" "[I" ∈ wsX8_withLead := by decide +kernel
  have f13 : Cond.fieldLink RX8 13 "FourPhasesModel" "spare" "[I" ∈ wsX8_withLead := by decide +kernel
  refine j_aload_n cx (pc := 0) dX8_withLead_0 0 rfl ?_
  obtain ⟨V1, hV1⟩ : ∃ z, z = (C8_putAside M ) := ⟨_, rfl⟩
  refine j_callv cx (pc := 1) 0 (c_X8_putAside l D Y mo M  ) gX8_withLead_X8_putAside rfl (by decide +kernel) rfl ⟨Nat.le_of_ble_eq_true rfl, Nat.le_of_ble_eq_true rfl⟩ [0] rfl (by decide) (Bs' := [moB Y mo V1]) (by rw [hV1]; exact P1_mo M (C8_putAside M )) A1_mo 0 0 rfl rfl rfl rfl (Nat.le_of_ble_eq_true rfl) dX8_withLead_1 ⟨Nat.zero_le _, Nat.zero_le _⟩ ?_
  refine j_aload_n cx (pc := 4) dX8_withLead_4 0 rfl ?_
  refine j_get cx (pc := 5) 0 0 rfl rfl (C := RX8) (T := TX8) (N := 12) rfl hinX8 0 (by decide) f7 rfl (v := .ref (mo 1)) rfl dX8_withLead_5 ?_
  refine j_iconst cx (pc := 8) (v := (nI 0)) dX8_withLead_8 (by decide) ?_
  refine j_iload_n cx (pc := 9) dX8_withLead_9 1 rfl ?_
  obtain ⟨V2, hV2⟩ : ∃ z, z = up1 V1 1 0 lead := ⟨_, rfl⟩
  refine j_iast cx (pc := 10) 0 1 0 rfl rfl rfl (by decide) (by decide) (Bs' := [moB Y mo V2]) (by rw [hV2]; rfl) dX8_withLead_10 ?_
  refine j_aload_n cx (pc := 11) dX8_withLead_11 0 rfl ?_
  obtain ⟨V3, hV3⟩ : ∃ z, z = (C8_settle V2 ).2 := ⟨_, rfl⟩
  refine j_calli cx (pc := 12) 0 (c_X8_settle l D Y mo V2  (by rw [hV2, hV1]; exact hok)) gX8_withLead_X8_settle rfl (by decide +kernel) rfl ⟨Nat.le_of_ble_eq_true rfl, Nat.le_of_ble_eq_true rfl⟩ [0] rfl (by decide) (Bs' := [moB Y mo V3]) (by rw [hV3]; exact P1_mo V2 (C8_settle V2 ).2) A1_mo 0 0 rfl rfl rfl rfl (Nat.le_of_ble_eq_true rfl) dX8_withLead_12 ⟨Nat.zero_le _, Nat.zero_le _⟩ ?_
  refine j_istore_n cx (pc := 15) (lv' := [(3, .int ((C8_settle V2 ).1)), (0, .ref (mo 0)), (1, .int lead), (2, .int what)]) dX8_withLead_15 (by decide) rfl ?_
  refine j_aload_n cx (pc := 16) dX8_withLead_16 1 rfl ?_
  refine j_get cx (pc := 17) 0 0 rfl rfl (C := RX8) (T := TX8) (N := 12) rfl hinX8 0 (by decide) f7 rfl (v := .ref (mo 1)) rfl dX8_withLead_17 ?_
  refine j_iconst cx (pc := 20) (v := (nI 5)) dX8_withLead_20 (by decide) ?_
  refine j_iald cx (pc := 21) 0 1 0 rfl rfl rfl (by decide) (by decide) dX8_withLead_21 ?_
  refine j_aload_n cx (pc := 22) dX8_withLead_22 1 rfl ?_
  refine j_get cx (pc := 23) 0 0 rfl rfl (C := RX8) (T := TX8) (N := 12) rfl hinX8 1 (by decide) f13 rfl (v := .ref (mo 2)) rfl dX8_withLead_23 ?_
  refine j_iconst cx (pc := 26) (v := (nI 5)) dX8_withLead_26 (by decide) ?_
  refine j_iald cx (pc := 27) 0 2 0 rfl rfl rfl (by decide) (by decide) dX8_withLead_27 ?_
  refine j_isub cx (pc := 28) dX8_withLead_28 ?_
  refine j_istore cx (pc := 29) (lv' := [(4, .int ((V3 1 5) - (V3 2 5))), (3, .int ((C8_settle V2 ).1)), (0, .ref (mo 0)), (1, .int lead), (2, .int what)]) dX8_withLead_29 (by decide) rfl ?_
  refine j_iload cx (pc := 31) dX8_withLead_31 0 rfl ?_
  refine j_aload_n cx (pc := 33) dX8_withLead_33 2 rfl ?_
  refine j_get cx (pc := 34) 0 0 rfl rfl (C := RX8) (T := TX8) (N := 12) rfl hinX8 0 (by decide) f7 rfl (v := .ref (mo 1)) rfl dX8_withLead_34 ?_
  refine j_bipush cx (pc := 37) (v := (nI 6)) dX8_withLead_37 (by decide) ?_
  refine j_iald cx (pc := 39) 0 1 0 rfl rfl rfl (by decide) (by decide) dX8_withLead_39 ?_
  refine j_isub cx (pc := 40) dX8_withLead_40 ?_
  refine j_aload_n cx (pc := 41) dX8_withLead_41 2 rfl ?_
  refine j_get cx (pc := 42) 0 0 rfl rfl (C := RX8) (T := TX8) (N := 12) rfl hinX8 1 (by decide) f13 rfl (v := .ref (mo 2)) rfl dX8_withLead_42 ?_
  refine j_bipush cx (pc := 45) (v := (nI 6)) dX8_withLead_45 (by decide) ?_
  refine j_iald cx (pc := 47) 0 2 0 rfl rfl rfl (by decide) (by decide) dX8_withLead_47 ?_
  refine j_iadd cx (pc := 48) dX8_withLead_48 ?_
  refine j_istore cx (pc := 49) (lv' := [(5, .int ((((V3 1 5) - (V3 2 5)) - (V3 1 6)) + (V3 2 6))), (4, .int ((V3 1 5) - (V3 2 5))), (3, .int ((C8_settle V2 ).1)), (0, .ref (mo 0)), (1, .int lead), (2, .int what)]) dX8_withLead_49 (by decide) rfl ?_
  refine j_aload_n cx (pc := 51) dX8_withLead_51 3 rfl ?_
  obtain ⟨V4, hV4⟩ : ∃ z, z = (C8_takeBack V3 ) := ⟨_, rfl⟩
  refine j_callv cx (pc := 52) 0 (c_X8_takeBack l D Y mo V3  ) gX8_withLead_X8_takeBack rfl (by decide +kernel) rfl ⟨Nat.le_of_ble_eq_true rfl, Nat.le_of_ble_eq_true rfl⟩ [0] rfl (by decide) (Bs' := [moB Y mo V4]) (by rw [hV4]; exact P1_mo V3 (C8_takeBack V3 )) A1_mo 0 0 rfl rfl rfl rfl (Nat.le_of_ble_eq_true rfl) dX8_withLead_52 ⟨Nat.zero_le _, Nat.zero_le _⟩ ?_
  refine j_iload_n cx (pc := 55) dX8_withLead_55 5 rfl ?_
  refine j_if_ne cx (pc := 56) (tgt := 63) dX8_withLead_56 (by decide) (fun c56_1 => ?_) (fun c56_1 => ?_)
  · skip
    refine j_iload_n cx (pc := 63) dX8_withLead_63 5 rfl ?_
    refine j_iconst cx (pc := 64) (v := (nI 1)) dX8_withLead_64 (by decide) ?_
    refine j_icmp_ne cx (pc := 65) (tgt := 73) dX8_withLead_65 (by decide) (fun c65_2 => ?_) (fun c65_2 => ?_)
    · skip
      refine j_iload cx (pc := 73) dX8_withLead_73 0 rfl ?_
      subst hQ; exact j_iret cx hr (by subst hV4; subst hV3; subst hV2; subst hV1; simp only [C8_withLead, if_neg c56_1, if_neg c65_2]) (by subst hV4; subst hV3; subst hV2; subst hV1; simp only [C8_withLead, if_neg c56_1, if_neg c65_2]) hA dX8_withLead_75
    · skip
      refine j_iload cx (pc := 68) dX8_withLead_68 1 rfl ?_
      refine j_goto cx (pc := 70) (tgt := 75) dX8_withLead_70 (by decide) ?_
      subst hQ; exact j_iret cx hr (by subst hV4; subst hV3; subst hV2; subst hV1; simp only [C8_withLead, if_neg c56_1, if_pos c65_2]) (by subst hV4; subst hV3; subst hV2; subst hV1; simp only [C8_withLead, if_neg c56_1, if_pos c65_2]) hA dX8_withLead_75
  · skip
    refine j_iload_n cx (pc := 59) dX8_withLead_59 2 rfl ?_
    refine j_goto cx (pc := 60) (tgt := 75) dX8_withLead_60 (by decide) ?_
    subst hQ; exact j_iret cx hr (by subst hV4; subst hV3; subst hV2; subst hV1; simp only [C8_withLead, if_pos c56_1]) (by subst hV4; subst hV3; subst hV2; subst hV1; simp only [C8_withLead, if_pos c56_1]) hA dX8_withLead_75
def C8_ifLead (M : Nat → Nat → Int32) (lead : Int32) (what : Int32) : Int32 × (Nat → Nat → Int32) :=
  if (C8_within lead (nI 0) (nI 20)) = 0 then
    ((-2), M)
  else
    if (C8_within what (nI 0) (nI 2)) = 0 then
      ((-2), M)
    else
      let V1 := (C8_withLead M lead what).2
      (((C8_withLead M lead what).1), V1)
set_option maxHeartbeats 4000000 in
set_option maxRecDepth 100000 in
theorem c_X8_ifLead (l : Launch) (D : va_G) (Y : Nat → ClassId) (mo : Nat → Nat) (M : Nat → Nat → Int32) (lead : Int32) (what : Int32) (hok : ¬ C8_within lead (nI 0) (nI 20) = 0 → ¬ C8_within what (nI 0) (nI 2) = 0 → setOK 5000 (up1 (C8_putAside M) 1 0 lead)) : CtI l yX8_ifLead wsX8_ifLead 7 169 D (tyL Y) ([moB Y mo M]) [.ref (mo 0), .int lead, .int what] (C8_ifLead M lead what).1 ([moB Y mo (C8_ifLead M lead what).2]) := by
  refine CtI.intro (own := RX8) (cc := cX8_ifLead) (maxL := 3) rfl (by decide +kernel) rfl (Nat.le_of_ble_eq_true rfl) (fun p e s m args below meth c A Q hA hQ cx hr => ?_)
  refine j_iload_n cx (pc := 0) dX8_ifLead_0 1 rfl ?_
  refine j_iconst cx (pc := 1) (v := (nI 0)) dX8_ifLead_1 (by decide) ?_
  refine j_bipush cx (pc := 2) (v := (nI 20)) dX8_ifLead_2 (by decide) ?_
  refine j_calls cx (pc := 4) 3 (c_X8_within l D Y lead (nI 0) (nI 20) ) gX8_ifLead_X8_within rfl (by decide +kernel) rfl ⟨Nat.le_of_ble_eq_true rfl, Nat.le_of_ble_eq_true rfl⟩ rfl (Nat.le_of_ble_eq_true rfl) dX8_ifLead_4 ⟨Nat.zero_le _, Nat.zero_le _⟩ ?_
  refine j_if_eq cx (pc := 7) (tgt := 28) dX8_ifLead_7 (by decide) (fun c7_1 => ?_) (fun c7_1 => ?_)
  · skip
    refine j_bipush cx (pc := 28) (v := (-2)) dX8_ifLead_28 (by decide) ?_
    subst hQ; exact j_iret cx hr (by simp only [C8_ifLead, if_pos c7_1]) (by simp only [C8_ifLead, if_pos c7_1]) hA dX8_ifLead_30
  · skip
    refine j_iload_n cx (pc := 10) dX8_ifLead_10 2 rfl ?_
    refine j_iconst cx (pc := 11) (v := (nI 0)) dX8_ifLead_11 (by decide) ?_
    refine j_iconst cx (pc := 12) (v := (nI 2)) dX8_ifLead_12 (by decide) ?_
    refine j_calls cx (pc := 13) 3 (c_X8_within l D Y what (nI 0) (nI 2) ) gX8_ifLead_X8_within rfl (by decide +kernel) rfl ⟨Nat.le_of_ble_eq_true rfl, Nat.le_of_ble_eq_true rfl⟩ rfl (Nat.le_of_ble_eq_true rfl) dX8_ifLead_13 ⟨Nat.zero_le _, Nat.zero_le _⟩ ?_
    refine j_if_eq cx (pc := 16) (tgt := 28) dX8_ifLead_16 (by decide) (fun c16_2 => ?_) (fun c16_2 => ?_)
    · skip
      refine j_bipush cx (pc := 28) (v := (-2)) dX8_ifLead_28 (by decide) ?_
      subst hQ; exact j_iret cx hr (by simp only [C8_ifLead, if_neg c7_1, if_pos c16_2]) (by simp only [C8_ifLead, if_neg c7_1, if_pos c16_2]) hA dX8_ifLead_30
    · skip
      refine j_aload_n cx (pc := 19) dX8_ifLead_19 0 rfl ?_
      refine j_iload_n cx (pc := 20) dX8_ifLead_20 1 rfl ?_
      refine j_iload_n cx (pc := 21) dX8_ifLead_21 2 rfl ?_
      obtain ⟨V1, hV1⟩ : ∃ z, z = (C8_withLead M lead what).2 := ⟨_, rfl⟩
      refine j_calli cx (pc := 22) 2 (c_X8_withLead l D Y mo M lead what (hok c7_1 c16_2)) gX8_ifLead_X8_withLead rfl (by decide +kernel) rfl ⟨Nat.le_of_ble_eq_true rfl, Nat.le_of_ble_eq_true rfl⟩ [0] rfl (by decide) (Bs' := [moB Y mo V1]) (by rw [hV1]; exact P1_mo M (C8_withLead M lead what).2) A1_mo 0 0 rfl rfl rfl rfl (Nat.le_of_ble_eq_true rfl) dX8_ifLead_22 ⟨Nat.zero_le _, Nat.zero_le _⟩ ?_
      refine j_goto cx (pc := 25) (tgt := 30) dX8_ifLead_25 (by decide) ?_
      subst hQ; exact j_iret cx hr (by subst hV1; simp only [C8_ifLead, if_neg c7_1, if_neg c16_2]) (by subst hV1; simp only [C8_ifLead, if_neg c7_1, if_neg c16_2]) hA dX8_ifLead_30
/-- the state after k leads were tried -/
def llS (M : Nat → Nat → Int32) : Nat → Nat → Nat → Int32
  | 0 => M
  | k + 1 => (C8_withLead (llS M k) (nI k) (nI 2)).2
def L8_leastLead  : Nat → Nat → (Nat → Nat → Int32) → Int32 × (Nat → Nat → Int32)
  | 0, k, M0 =>
      ((-5), M0)
  | q + 1, k, M0 =>
      let V1 := (C8_withLead M0 (nI k) (nI 2)).2
      if ((C8_withLead M0 (nI k) (nI 2)).1) = 0 then
        ((nI k), V1)
      else
        L8_leastLead q (k + 1) V1
def C8_leastLead (M : Nat → Nat → Int32)  : Int32 × (Nat → Nat → Int32) :=
  L8_leastLead (21) 0 M
set_option maxHeartbeats 4000000 in
set_option maxRecDepth 100000 in
theorem c_X8_leastLead (l : Launch) (D : va_G) (Y : Nat → ClassId) (mo : Nat → Nat) (M : Nat → Nat → Int32)  (hok : ∀ k : Nat, k < 21 → setOK 5000 (up1 (C8_putAside (llS M k)) 1 0 (nI k))) : CtI l yX8_leastLead wsX8_leastLead 7 169 D (tyL Y) ([moB Y mo M]) [.ref (mo 0)] (C8_leastLead M ).1 ([moB Y mo ((C8_leastLead M ).2)]) := by
  refine CtI.intro (own := RX8) (cc := cX8_leastLead) (maxL := 2) rfl (by decide +kernel) rfl (Nat.le_of_ble_eq_true rfl) (fun p e s m args below meth c A Q hA hQ cx hr => ?_)
  have loop : ∀ (q : Nat) (k : Nat) (M0 : Nat → Nat → Int32), (k + q = 21) → (M0 = llS M k) → L8_leastLead q k M0 = C8_leastLead M  → J p l e { frames := 7, cells := 0, slots := 0, locals := 169 } s m args below meth c 2 D A 0 0 Q ([moB Y mo M0]) 2 [(1, .int (nI k)), (0, .ref (mo 0))] [] := by
    intro q
    induction q with
    | zero =>
      intro k M0 hq hM0 hS
      refine j_iload_n cx (pc := 2) dX8_leastLead_2 0 rfl ?_
      refine j_bipush cx (pc := 3) (v := (nI 20)) dX8_leastLead_3 (by decide) ?_
      refine j_icmpN_gt cx (pc := 5) (by omega) (by decide) (tgt := 25) dX8_leastLead_5 (by decide) (fun c5_1 => ?_) (fun c5_1 => by exfalso; omega)
      refine j_bipush cx (pc := 25) (v := (-5)) dX8_leastLead_25 (by decide) ?_
      subst hQ; exact j_iret cx hr (by rw [← hS]; simp only [L8_leastLead]) (by rw [← hS]; simp only [L8_leastLead]) hA dX8_leastLead_27
    | succ q ih =>
      intro k M0 hq hM0 hS
      refine j_iload_n cx (pc := 2) dX8_leastLead_2 0 rfl ?_
      refine j_bipush cx (pc := 3) (v := (nI 20)) dX8_leastLead_3 (by decide) ?_
      refine j_icmpN_gt cx (pc := 5) (by omega) (by decide) (tgt := 25) dX8_leastLead_5 (by decide) (fun c5_1 => by exfalso; omega) (fun c5_1 => ?_)
      refine j_aload_n cx (pc := 8) dX8_leastLead_8 1 rfl ?_
      refine j_iload_n cx (pc := 9) dX8_leastLead_9 0 rfl ?_
      refine j_iconst cx (pc := 10) (v := (nI 2)) dX8_leastLead_10 (by decide) ?_
      obtain ⟨V1, hV1⟩ : ∃ z, z = (C8_withLead M0 (nI k) (nI 2)).2 := ⟨_, rfl⟩
      refine j_calli cx (pc := 11) 2 (c_X8_withLead l D Y mo M0 (nI k) (nI 2) (by rw [hM0]; exact hok k (by omega))) gX8_leastLead_X8_withLead rfl (by decide +kernel) rfl ⟨Nat.le_of_ble_eq_true rfl, Nat.le_of_ble_eq_true rfl⟩ [0] rfl (by decide) (Bs' := [moB Y mo V1]) (by rw [hV1]; exact P1_mo M0 (C8_withLead M0 (nI k) (nI 2)).2) A1_mo 0 0 rfl rfl rfl rfl (Nat.le_of_ble_eq_true rfl) dX8_leastLead_11 ⟨Nat.zero_le _, Nat.zero_le _⟩ ?_
      refine j_if_ne cx (pc := 14) (tgt := 19) dX8_leastLead_14 (by decide) (fun c14_2 => ?_) (fun c14_2 => ?_)
      · skip
        refine j_iinc cx (pc := 19) (v := (nI (k + 1))) (lv' := [(1, .int (nI (k + 1))), (0, .ref (mo 0))]) dX8_leastLead_19 0 rfl (show nI k + nI 1 = nI (k + 1) from nI_add _ _) (by decide) rfl ?_
        refine j_goto cx (pc := 22) (tgt := 2) dX8_leastLead_22 (by decide) ?_
        refine j_lvm (lv' := [(1, .int (nI (k + 1))), (0, .ref (mo 0))]) (by intro z hz; simp only [List.mem_cons, List.not_mem_nil, or_false] at hz ⊢; rcases hz with rfl | rfl <;> simp) ?_
        exact ih (k + 1) V1 (by omega) (by rw [hV1, hM0]; rfl) (by subst hV1; rw [← hS]; simp only [L8_leastLead, if_neg c14_2])
      · skip
        refine j_iload_n cx (pc := 17) dX8_leastLead_17 0 rfl ?_
        subst hQ; exact j_iret cx hr (by subst hV1; rw [← hS]; simp only [L8_leastLead, if_pos c14_2]) (by subst hV1; rw [← hS]; simp only [L8_leastLead, if_pos c14_2]) hA dX8_leastLead_18
  refine j_iconst cx (pc := 0) (v := (nI 0)) dX8_leastLead_0 (by decide) ?_
  refine j_istore_n cx (pc := 1) (lv' := [(1, .int (nI 0)), (0, .ref (mo 0))]) dX8_leastLead_1 (by decide) rfl ?_
  refine j_lvm (lv' := [(1, .int (nI 0)), (0, .ref (mo 0))]) (by intro z hz; simp only [List.mem_cons, List.not_mem_nil, or_false] at hz ⊢; rcases hz with rfl | rfl <;> simp) ?_
  exact loop (21) 0 M rfl rfl (by rfl)
def C8_clearText (M : Nat → Nat → Int32)  : Int32 × (Nat → Nat → Int32) :=
  let V1 := up1 M 0 2 (nI 0)
  ((M 0 2), V1)
set_option maxHeartbeats 4000000 in
set_option maxRecDepth 100000 in
theorem c_X8_clearText (l : Launch) (D : va_G) (Y : Nat → ClassId) (mo : Nat → Nat) (M : Nat → Nat → Int32)   : CtI l yX8_clearText wsX8_clearText 0 0 D (tyL Y) ([moB Y mo M]) [.ref (mo 0)] (C8_clearText M ).1 ([moB Y mo (C8_clearText M ).2]) := by
  refine CtI.intro (own := RX8) (cc := cX8_clearText) (maxL := 2) rfl (by decide +kernel) rfl (Nat.le_of_ble_eq_true rfl) (fun p e s m args below meth c A Q hA hQ cx hr => ?_)
  have hinX8 : ∀ w ∈ wsX80, w ∈ wsX8_clearText := by decide +kernel
  have f131 : Cond.fieldLink RX8 131 "FourPhasesModel" "length" "I" ∈ wsX8_clearText := by decide +kernel
  refine j_aload_n cx (pc := 0) dX8_clearText_0 0 rfl ?_
  refine j_get cx (pc := 1) 0 0 rfl rfl (C := RX8) (T := TX8) (N := 12) rfl hinX8 7 (by decide) f131 rfl (v := .int (M 0 2)) rfl dX8_clearText_1 ?_
  refine j_istore_n cx (pc := 4) (lv' := [(1, .int (M 0 2)), (0, .ref (mo 0))]) dX8_clearText_4 (by decide) rfl ?_
  refine j_aload_n cx (pc := 5) dX8_clearText_5 1 rfl ?_
  refine j_iconst cx (pc := 6) (v := (nI 0)) dX8_clearText_6 (by decide) ?_
  obtain ⟨V1, hV1⟩ : ∃ z, z = up1 M 0 2 (nI 0) := ⟨_, rfl⟩
  refine j_put cx (pc := 7) 0 0 rfl rfl (C := RX8) (T := TX8) (N := 12) rfl hinX8 tyX8 tyX8_ok nmX8 7 (by decide) f131 rfl rfl rfl rfl (Nat.le_of_ble_eq_true rfl) (Bs' := [moB Y mo V1]) (by rw [hV1]; rfl) dX8_clearText_7 ?_
  refine j_iload_n cx (pc := 10) dX8_clearText_10 0 rfl ?_
  subst hQ; exact j_iret cx hr (by subst hV1; rfl) (by subst hV1; rfl) hA dX8_clearText_11
def C8_type (M : Nat → Nat → Int32) (x : Int32) : Int32 × (Nat → Nat → Int32) :=
  if (tN (M 0 2)) = 60 then
    ((-3), M)
  else
    let V1 := up1 M 5 (tN (M 0 2)) x
    let V2 := up1 V1 0 2 ((V1 0 2) + (nI 1))
    ((V2 0 2), V2)
set_option maxHeartbeats 4000000 in
set_option maxRecDepth 100000 in
theorem c_X8_type (l : Launch) (D : va_G) (Y : Nat → ClassId) (mo : Nat → Nat) (M : Nat → Nat → Int32) (x : Int32) (hlen : vp_in (M 0 2) 61) : CtI l yX8_type wsX8_type 0 0 D (tyL Y) ([moB Y mo M]) [.ref (mo 0), .int x] (C8_type M x).1 ([moB Y mo (C8_type M x).2]) := by
  refine CtI.intro (own := RX8) (cc := cX8_type) (maxL := 2) rfl (by decide +kernel) rfl (Nat.le_of_ble_eq_true rfl) (fun p e s m args below meth c A Q hA hQ cx hr => ?_)
  have hinX8 : ∀ w ∈ wsX80, w ∈ wsX8_type := by decide +kernel
  have f22 : Cond.fieldLink RX8 22 "FourPhasesModel" "text" "[I" ∈ wsX8_type := by decide +kernel
  have f131 : Cond.fieldLink RX8 131 "FourPhasesModel" "length" "I" ∈ wsX8_type := by decide +kernel
  have hl61 : tN (M 0 2) < 61 := inL hlen
  refine j_aload_n cx (pc := 0) dX8_type_0 0 rfl ?_
  refine j_get cx (pc := 1) 0 0 rfl rfl (C := RX8) (T := TX8) (N := 12) rfl hinX8 7 (by decide) f131 rfl (v := .int (M 0 2)) rfl dX8_type_1 ?_
  refine j_top (show (M 0 2) = (nI (tN (M 0 2))) from inN hlen) ?_
  refine j_bipush cx (pc := 4) (v := (nI 60)) dX8_type_4 (by decide) ?_
  refine j_icmpN_ne cx (pc := 6) (by omega) (by decide) (tgt := 12) dX8_type_6 (by decide) (fun c6_1 => ?_) (fun c6_1 => ?_)
  · skip
    refine j_aload_n cx (pc := 12) dX8_type_12 0 rfl ?_
    refine j_get cx (pc := 13) 0 0 rfl rfl (C := RX8) (T := TX8) (N := 12) rfl hinX8 6 (by decide) f22 rfl (v := .ref (mo 5)) rfl dX8_type_13 ?_
    refine j_aload_n cx (pc := 16) dX8_type_16 0 rfl ?_
    refine j_get cx (pc := 17) 0 0 rfl rfl (C := RX8) (T := TX8) (N := 12) rfl hinX8 7 (by decide) f131 rfl (v := .int (M 0 2)) rfl dX8_type_17 ?_
    refine j_top (show (M 0 2) = (nI (tN (M 0 2))) from inN hlen) ?_
    refine j_iload_n cx (pc := 20) dX8_type_20 1 rfl ?_
    obtain ⟨V1, hV1⟩ : ∃ z, z = up1 M 5 (tN (M 0 2)) x := ⟨_, rfl⟩
    refine j_iast cx (pc := 21) 0 5 0 rfl rfl rfl (by omega) (by decide) (Bs' := [moB Y mo V1]) (by rw [hV1]; rfl) dX8_type_21 ?_
    refine j_aload_n cx (pc := 22) dX8_type_22 0 rfl ?_
    refine j_dup cx (pc := 23) dX8_type_23 rfl ?_
    refine j_get cx (pc := 24) 0 0 rfl rfl (C := RX8) (T := TX8) (N := 12) rfl hinX8 7 (by decide) f131 rfl (v := .int (V1 0 2)) rfl dX8_type_24 ?_
    refine j_iconst cx (pc := 27) (v := (nI 1)) dX8_type_27 (by decide) ?_
    refine j_iadd cx (pc := 28) dX8_type_28 ?_
    obtain ⟨V2, hV2⟩ : ∃ z, z = up1 V1 0 2 ((V1 0 2) + (nI 1)) := ⟨_, rfl⟩
    refine j_put cx (pc := 29) 0 0 rfl rfl (C := RX8) (T := TX8) (N := 12) rfl hinX8 tyX8 tyX8_ok nmX8 7 (by decide) f131 rfl rfl rfl rfl (Nat.le_of_ble_eq_true rfl) (Bs' := [moB Y mo V2]) (by rw [hV2]; rfl) dX8_type_29 ?_
    refine j_aload_n cx (pc := 32) dX8_type_32 0 rfl ?_
    refine j_get cx (pc := 33) 0 0 rfl rfl (C := RX8) (T := TX8) (N := 12) rfl hinX8 7 (by decide) f131 rfl (v := .int (V2 0 2)) rfl dX8_type_33 ?_
    subst hQ; exact j_iret cx hr (by subst hV2; subst hV1; simp only [C8_type, if_neg c6_1]) (by subst hV2; subst hV1; simp only [C8_type, if_neg c6_1]) hA dX8_type_36
  · skip
    refine j_bipush cx (pc := 9) (v := (-3)) dX8_type_9 (by decide) ?_
    subst hQ; exact j_iret cx hr (by simp only [C8_type, if_pos c6_1]) (by simp only [C8_type, if_pos c6_1]) hA dX8_type_11
