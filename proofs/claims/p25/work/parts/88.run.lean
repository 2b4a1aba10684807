/-! ticks go by; a delay is changed; all becomes quiet: on both sides -/
theorem wi_ok2 {v : Int32} {a b : Nat} (ha : a < 2 ^ 31) (hb : b < 2 ^ 31) : (C8_within v (nI a) (nI b) = 0 ∧ (v < nI a ∨ nI b < v)) ∨ (¬ C8_within v (nI a) (nI b) = 0 ∧ ∃ x, a ≤ x ∧ x ≤ b ∧ v = nI x) := by
  by_cases h : C8_within v (nI a) (nI b) = 0
  · left
    refine ⟨h, ?_⟩
    unfold C8_within at h
    by_cases c1 : v < nI a
    · exact Or.inl c1
    · rw [if_neg c1] at h
      by_cases c2 : nI b < v
      · exact Or.inr c2
      · rw [if_neg c2] at h; exact absurd h (by decide)
  · right
    obtain ⟨e, x1, x2⟩ := wi_ok ha hb h
    exact ⟨h, tN v, x1, x2, e⟩
theorem G_run {V M : Nat → Nat → Int32} {L : List (Nat × Nat)} {n p nS t cap : Nat} {ph : Nat → Nat} (h : Rel V (M 1) L n p) (i : Inv V L n p nS t ph cap) (ticks : Int32) (ht : t ≤ 1000000) (hcb : cap < 2 ^ 29) :
    ptOK V ticks ∧ (¬ C8_within ticks (nI 1) (nI 1000) = 0 → (M 1 4) + ticks ≤ nI 1000000 → gtoOK ((M 1 4) + ticks) 5000 M) ∧ (C2_passTicks V ticks).1 = (C8_runs M ticks).1 ∧ ((C8_runs M ticks).1 < 0 → C2_passTicks V ticks = ((C8_runs M ticks).1, V) ∧ (C8_runs M ticks).2 = M) ∧ ∃ L' n' p' t' ph', Rel (C2_passTicks V ticks).2 ((C8_runs M ticks).2 1) L' n' p' ∧ Inv (C2_passTicks V ticks).2 L' n' p' nS t' ph' cap ∧ t' ≤ 1000000 ∧ (Off V → Off (C2_passTicks V ticks).2) := by
  have e4 : M 1 4 = nI t := by rw [← R_t h]; exact i.1.2.2.2.1
  have eV : V 0 1 = nI t := i.1.2.2.2.1
  have same : ∃ L' n' p' t' ph', Rel V (M 1) L' n' p' ∧ Inv V L' n' p' nS t' ph' cap ∧ t' ≤ 1000000 ∧ (Off V → Off V) := ⟨L, n, p, t, ph, h, i, ht, id⟩
  have hmu := mu_le h i
  rcases wi_ok2 (v := ticks) (a := 1) (b := 1000) (by decide) (by decide) with ⟨w0, w1⟩ | ⟨w0, x, x1, x2, rfl⟩
  · have hno : ticks < nI 1 ∨ ¬ ticks ≤ nI 1000 := by
      rcases w1 with q | q
      · exact Or.inl q
      · exact Or.inr (Int32.not_le.mpr q)
    have eC : C2_passTicks V ticks = ((-2), V) := by
      unfold C2_passTicks
      by_cases q : ticks < nI 1
      · rw [if_pos q]
      · rw [if_neg q, if_neg (hno.resolve_left q)]
    have eM : C8_runs M ticks = ((-2), M) := by unfold C8_runs; rw [if_pos w0]
    rw [eC, eM]
    exact ⟨fun a b _ => by rcases hno with q | q; exact absurd q a; exact absurd b q, fun a => absurd w0 a, rfl, fun _ => ⟨rfl, rfl⟩, same⟩
  · have a1 : ¬ nI x < nI 1 := by rw [nI_ltI (by omega) (by decide)]; omega
    have a2 : nI x ≤ nI 1000 := (nI_leI (by omega) (by decide)).mpr x2
    by_cases c : t + x ≤ 1000000
    · have a3 : V 0 1 + nI x ≤ nI 1000000 := by rw [eV, nI_add]; exact (nI_leI (by omega) (by decide)).mpr c
      have a4 : M 1 4 + nI x ≤ nI 1000000 := by rw [e4, nI_add]; exact (nI_leI (by omega) (by decide)).mpr c
      obtain ⟨g1, g2, L', n', p', t', ph', R, I, y1, y2, y3, y4, y5, nn, ofl⟩ := loopG (t + x) (by omega) (mu V L nS ph) V M L n p nS t cap ph rfl h i (by omega) hcb 5000 1000000 (by omega) (by omega)
      obtain ⟨R2, I2⟩ := G_time (T := t + x) R I (by omega) y1
      have eC : C2_passTicks V (nI x) = (up1 (lauL (nI (t + x)) 1000000 V) 0 1 (nI (t + x)) 7 0 - V 7 0, up1 (lauL (nI (t + x)) 1000000 V) 0 1 (nI (t + x))) := by
        unfold C2_passTicks C2_letArriveUpTo
        try dsimp only
        rw [if_neg a1, if_pos a2, if_pos a3, eV, nI_add]
      have eM : C8_runs M (nI x) = (up1 (gtoL (nI (t + x)) 5000 M) 1 4 (nI (t + x)) 1 5 - M 1 5, up1 (gtoL (nI (t + x)) 5000 M) 1 4 (nI (t + x))) := by
        unfold C8_runs C8_goTo
        try dsimp only
        rw [if_neg w0, if_pos a4, e4, nI_add]
      have q1 : up1 (lauL (nI (t + x)) 1000000 V) 0 1 (nI (t + x)) 7 0 = up1 (gtoL (nI (t + x)) 5000 M) 1 4 (nI (t + x)) 1 5 := R_eq R2 (c := 7) (i := 0) (by decide)
      have q2 : V 7 0 = M 1 5 := R_eq h (c := 7) (i := 0) (by decide)
      have n0 : V 7 0 = nI n := h.2.2.2.2.2.1.2.2.1
      have n1 : up1 (lauL (nI (t + x)) 1000000 V) 0 1 (nI (t + x)) 7 0 = nI n' := R2.2.2.2.2.2.1.2.2.1
      rw [eC, eM]
      refine ⟨fun _ _ _ => by rw [eV, nI_add]; exact g2, fun _ _ => by rw [e4, nI_add]; exact g1, ?_, fun z => ?_, L', n', p', t + x, ph', R2, I2, c, fun o => sm_off (sm_up (sm_r _) (by decide) (by decide)) (ofl o)⟩
      · show _ - V 7 0 = _ - M 1 5
        rw [q1, q2]
      · have z : up1 (gtoL (nI (t + x)) 5000 M) 1 4 (nI (t + x)) 1 5 - M 1 5 < 0 := z
        rw [← q1, ← q2, n1, n0, pk_sub nn] at z
        exact absurd z (nI_pos (by have := R2.2.2.2.2.2.1.2.1; omega))
    · have a3 : ¬ V 0 1 + nI x ≤ nI 1000000 := by rw [eV, nI_add, nI_leI (by omega) (by decide)]; exact c
      have a4 : ¬ M 1 4 + nI x ≤ nI 1000000 := by rw [e4, nI_add, nI_leI (by omega) (by decide)]; exact c
      have eC : C2_passTicks V (nI x) = ((-3), V) := by
        unfold C2_passTicks
        try dsimp only
        rw [if_neg a1, if_pos a2, if_neg a3]
      have eM : C8_runs M (nI x) = ((-3), M) := by
        unfold C8_runs
        try dsimp only
        rw [if_neg w0, if_neg a4]
      rw [eC, eM]
      exact ⟨fun _ _ q => absurd q a3, fun _ q => absurd q a4, rfl, fun _ => ⟨rfl, rfl⟩, same⟩
theorem G_delOp {V M : Nat → Nat → Int32} {L : List (Nat × Nat)} {n p nS t cap : Nat} {ph : Nat → Nat} (h : Rel V (M 1) L n p) (i : Inv V L n p nS t ph cap) (link wire delay : Int32) :
    (C2_changeDelay V link wire delay).1 = (C8_setsDelay M link wire delay).1 ∧ ((C8_setsDelay M link wire delay).1 < 0 → C2_changeDelay V link wire delay = ((C8_setsDelay M link wire delay).1, V) ∧ ((C8_setsDelay M link wire delay).1 ≠ (-5) → (C8_setsDelay M link wire delay).2 = M)) ∧ Rel (C2_changeDelay V link wire delay).2 ((C8_setsDelay M link wire delay).2 1) L n p ∧ Inv (C2_changeDelay V link wire delay).2 L n p nS t ph cap ∧ ∀ c, c ≠ 1 → (C8_setsDelay M link wire delay).2 c = M c := by
  have n6 := i.1.2.1
  have eS : V 0 0 = nI nS := i.1.2.2.1
  have m3 : M 1 3 = nI nS := by rw [show M 1 3 = V 0 0 from (R_eq h (c := 0) (i := 0) (by decide)).symm]; exact eS
  have same : ∀ x : Int32, x = x ∧ (x < 0 → ((x, V) : Int32 × (Nat → Nat → Int32)) = (x, V) ∧ (x ≠ (-5) → M = M)) ∧ Rel V (M 1) L n p ∧ Inv V L n p nS t ph cap ∧ ∀ c, c ≠ 1 → M c = M c := fun x => ⟨rfl, fun _ => ⟨rfl, fun _ => rfl⟩, h, i, fun _ _ => rfl⟩
  rcases wi_ok2 (v := link) (a := 0) (b := nS) (by decide) (by omega) with ⟨w0, w1⟩ | ⟨w0, k, -, k2, rfl⟩
  · have eC : C2_changeDelay V link wire delay = ((-1), V) := by
      unfold C2_changeDelay C2_hasLink
      rw [eS]
      rcases w1 with q | q
      · rw [if_pos (show link < 0 from q), if_pos (show nI 0 = 0 from rfl)]
      · by_cases z : link < 0
        · rw [if_pos z, if_pos (show nI 0 = 0 from rfl)]
        · rw [if_neg z, if_pos q, if_pos (show nI 0 = 0 from rfl)]
    have eM : C8_setsDelay M link wire delay = ((-1), M) := by
      unfold C8_setsDelay C8_isLink
      rw [m3, if_pos w0]
    rw [eC, eM]; exact same _
  · have hl : ¬ C2_hasLink V (nI k) = 0 := by
      unfold C2_hasLink
      rw [eS, if_neg (nI_pos (by omega)), if_neg (show ¬ nI nS < nI k by rw [nI_ltI (by omega) (by omega)]; omega)]
      decide
    have hl2 : ¬ C8_isLink M (nI k) = 0 := by unfold C8_isLink; rw [m3]; exact w0
    rcases wi_ok2 (v := wire) (a := 0) (b := 2) (by decide) (by decide) with ⟨u0, u1⟩ | ⟨u0, w, -, w2, rfl⟩
    · have eC : C2_changeDelay V (nI k) wire delay = ((-1), V) := by
        unfold C2_changeDelay
        rw [if_neg hl]
        rcases u1 with q | q
        · rw [if_pos (show wire < 0 from q)]
        · by_cases z : wire < 0
          · rw [if_pos z]
          · rw [if_neg z, if_neg]
            intro y
            obtain ⟨r, hr, rfl⟩ := nI_of z
            rw [nI_ltI (by decide) hr] at q
            rw [nI_ltI hr (by decide)] at y
            omega
      have eM : C8_setsDelay M (nI k) wire delay = ((-1), M) := by
        unfold C8_setsDelay
        rw [if_neg hl2, if_pos (show C8_isWire wire = 0 from u0)]
      rw [eC, eM]; exact same _
    · have b1 : ¬ nI w < 0 := nI_pos (by omega)
      have b2 : nI w < nI 3 := (nI_ltI (by omega) (by decide)).mpr (by omega)
      rcases wi_ok2 (v := delay) (a := 1) (b := 20) (by decide) (by decide) with ⟨d0, d1⟩ | ⟨d0, d, dd1, dd2, rfl⟩
      · have eC : C2_changeDelay V (nI k) (nI w) delay = ((-2), V) := by
          unfold C2_changeDelay
          rw [if_neg hl, if_neg b1, if_pos b2]
          rcases d1 with q | q
          · rw [if_pos q]
          · by_cases z : delay < nI 1
            · rw [if_pos z]
            · rw [if_neg z, if_neg (Int32.not_le.mpr q)]
        have eM : C8_setsDelay M (nI k) (nI w) delay = ((-2), M) := by
          unfold C8_setsDelay
          rw [if_neg hl2, if_neg (show ¬ C8_isWire (nI w) = 0 from u0), if_pos d0]
        rw [eC, eM]; exact same _
      · have c1 : ¬ nI d < nI 1 := by rw [nI_ltI (by omega) (by decide)]; omega
        have c2 : nI d ≤ nI 20 := (nI_leI (by omega) (by decide)).mpr dd2
        have ev : V (18 + k) w = M 1 ((13 + (3 * k)) + w) := R_d h (by omega) (by omega)
        obtain ⟨x, x1, x2, x3⟩ := i.1.2.2.2.2.2.2.1 k (by omega) w (by omega)
        obtain ⟨R, I⟩ := G_delay (lk := k) (wr := w) (d := d) h i (by omega) (by omega) dd1 dd2
        have eC : C2_changeDelay V (nI k) (nI w) (nI d) = if V (18 + k) w = nI d then ((-5), V) else (V (18 + k) w, up1 V (18 + k) w (nI d)) := by
          unfold C2_changeDelay
          try dsimp only
          rw [if_neg hl, if_neg b1, if_pos b2, if_neg c1, if_pos c2, tN_nI (show k < 2 ^ 31 by omega), tN_nI (show w < 2 ^ 31 by omega)]
        have eM : C8_setsDelay M (nI k) (nI w) (nI d) = if V (18 + k) w = nI d then ((-5), up1 M 1 ((13 + (3 * k)) + w) (nI d)) else (V (18 + k) w, up1 M 1 ((13 + (3 * k)) + w) (nI d)) := by
          unfold C8_setsDelay
          try dsimp only
          rw [if_neg hl2, if_neg (show ¬ C8_isWire (nI w) = 0 from u0), if_neg d0, tN_nI (show k < 2 ^ 31 by omega), tN_nI (show w < 2 ^ 31 by omega), ev]
        rw [eC, eM]
        by_cases z : V (18 + k) w = nI d
        · rw [if_pos z, if_pos z]
          refine ⟨rfl, fun _ => ⟨rfl, fun q => absurd rfl q⟩, R_m h (fun j _ => ?_), i, fun c hc => fr_up hc⟩
          show up1 M 1 ((13 + (3 * k)) + w) (nI d) 1 j = M 1 j
          rw [up1_at]
          by_cases y : j = (13 + (3 * k)) + w
          · rw [if_pos ⟨rfl, y⟩, y, ← ev, z]
          · rw [if_neg (fun q => y q.2)]
        · rw [if_neg z, if_neg z]
          refine ⟨rfl, fun q => ?_, R, I, fun c hc => fr_up hc⟩
          exact absurd (show V (18 + k) w < 0 from q) (by rw [x3]; exact nI_pos (by omega))
