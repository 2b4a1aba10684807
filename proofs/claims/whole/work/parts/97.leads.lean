/-! ifLead and leastLead on both sides -/
theorem ar4 (a b x y : Int32) : (a - b) - (x - y) = ((a - x) - b) + y := by
  simp only [Int32.sub_eq_add_neg, Int32.neg_add, Int32.neg_neg]
  ac_rfl
theorem G_lead {c : Nat} {V W M : Nat → Nat → Int32} (g : Gd c V (M 1)) (hc : c < 2 ^ 29) {k : Nat} (hk : k ≤ 20) : setOK 5000 (up1 (C8_putAside M) 1 0 (nI k)) ∧ lauOK (nI 2000000000) 1000000 (up1 (C2_copyFrom W V) 1 0 (nI k)) ∧
    (C2_letArriveUpTo (up1 (C2_copyFrom W V) 1 0 (nI k)) (nI 2000000000)) 0 1 - V 0 1 = (C8_settle (up1 (C8_putAside M) 1 0 (nI k))).1 ∧
    (C2_letArriveUpTo (up1 (C2_copyFrom W V) 1 0 (nI k)) (nI 2000000000)) 7 0 - V 7 0 = (C8_settleS (up1 (C8_putAside M) 1 0 (nI k))) 1 5 - (C8_settleS (up1 (C8_putAside M) 1 0 (nI k))) 2 5 ∧
    C4_wrongWords (ntU (C2_letArriveUpTo (up1 (C2_copyFrom W V) 1 0 (nI k)) (nI 2000000000))) - C4_wrongWords (ntU V) = (((C8_settleS (up1 (C8_putAside M) 1 0 (nI k))) 1 5 - (C8_settleS (up1 (C8_putAside M) 1 0 (nI k))) 2 5) - (C8_settleS (up1 (C8_putAside M) 1 0 (nI k))) 1 6) + (C8_settleS (up1 (C8_putAside M) 1 0 (nI k))) 2 6 := by
  have gt : Gd c (C2_copyFrom W V) (C8_putAside M 1) := by
    rw [(pa_at M).1 1 (by decide)]
    exact Gd_copy g (fun _ _ => rfl)
  obtain ⟨L, n, p, nS, t, ph, r, i, ht, o⟩ := gt
  obtain ⟨R, I⟩ := G_set (M := C8_putAside M) (s := 0) (x := k) r i (by decide) hk
  obtain ⟨s1, s2, n', p', t', ph', R', I', -, -, -, -⟩ := G_settle R I ht hc (sm_off (sm_up (sm_r _) (by decide) (by decide)) o)
  obtain ⟨L0, n0, p0, nS0, t0, ph0, r0, i0, -, -⟩ := id g
  have a1 : V 0 1 = M 1 4 := r0.1 0 1 (by decide)
  have a2 : V 7 0 = M 1 5 := r0.1 7 0 (by decide)
  have a3 : V 7 1 = M 1 6 := r0.1 7 1 (by decide)
  obtain ⟨X, hX⟩ : ∃ z, z = C2_letArriveUpTo (up1 (C2_copyFrom W V) 1 0 (nI k)) (nI 2000000000) := ⟨_, rfl⟩
  obtain ⟨M1, hM1⟩ : ∃ z, z = up1 (C8_putAside M) 1 0 (nI k) := ⟨_, rfl⟩
  have m4 : M1 1 4 = M 1 4 := by rw [hM1, up1_at, if_neg (by decide), (pa_at M).1 1 (by decide)]
  have m2 : ∀ j, j < 719 → C8_settleS M1 2 j = M 1 j := fun j hj => by
    rw [st_fr _ (by decide), hM1, fr_up (by decide)]; exact (pa_at M).2 j hj
  rw [← hX, ← hM1] at R'
  rw [← hX, ← hM1]
  rw [← hM1] at s1
  have b1 : X 0 1 = C8_settleS M1 1 4 := R'.1 0 1 (by decide)
  have b2 : X 7 0 = C8_settleS M1 1 5 := R'.1 7 0 (by decide)
  have b3 : X 7 1 = C8_settleS M1 1 6 := R'.1 7 1 (by decide)
  refine ⟨s1, s2, ?_, ?_, ?_⟩
  · show X 0 1 - V 0 1 = C8_settleS M1 1 4 - M1 1 4
    rw [b1, m4, a1]
  · rw [b2, m2 5 (by decide), a2]
  · unfold C4_wrongWords
    show (X 7 0 - X 7 1) - (V 7 0 - V 7 1) = _
    rw [b2, b3, m2 5 (by decide), m2 6 (by decide), a2, a3]
    exact ar4 _ _ _ _
theorem tryL_eq (F : Nat → Nat → Nat → Int32) (l : Int32) : C7_settleTrialWithLead F l = setF F 1 (C2_letArriveUpTo (up1 (C2_copyFrom (F 1) (F 0)) 1 0 l) (nI 2000000000)) := by
  unfold C7_settleTrialWithLead
  try dsimp only
  rw [sff, sff, setF_eq, setF_eq]
theorem wiL_2 (M : Nat → Nat → Int32) (l w : Int32) : (C8_withLead M l w).2 = C8_takeBack (C8_settleS (up1 (C8_putAside M) 1 0 l)) := by
  unfold C8_withLead
  try dsimp only
  split
  · rfl
  · split <;> rfl
theorem Wh_try {c : Nat} {F : Nat → Nat → Nat → Int32} {M : Nat → Nat → Int32} (h : Wh c F M) (l w : Int32) : Wh c (C7_settleTrialWithLead F l) (C8_withLead M l w).2 := by
  rw [tryL_eq, wiL_2]
  exact Wh_back h (fun a h1 h2 => (st_fr _ h1).trans ((fr_up h1).trans ((pa_at M).1 a h2))) (fun j hj => by rw [st_fr _ (by decide), fr_up (by decide)]; exact (pa_at M).2 j hj)
theorem P_ifLead {c : Nat} {F : Nat → Nat → Nat → Int32} {M : Nat → Nat → Int32} (h : Wh c F M) (hc : c < 2 ^ 29) (lead what : Int32) : (¬ lead < 0 → ¬ nI 20 < lead → ¬ what < 0 → what ≤ nI 2 → lauOK (nI 2000000000) 1000000 (up1 (tr0 F) 1 0 lead)) ∧ (¬ C8_within lead (nI 0) (nI 20) = 0 → ¬ C8_within what (nI 0) (nI 2) = 0 → setOK 5000 (up1 (C8_putAside M) 1 0 lead)) ∧ (C7_ifLead F lead what).1 = (C8_ifLead M lead what).1 ∧ Wh c (C7_ifLead F lead what).2 (C8_ifLead M lead what).2 := by
  rcases wi_ok2 (v := lead) (a := 0) (b := 20) (by decide) (by decide) with ⟨w0, w1⟩ | ⟨w0, k, -, k2, rfl⟩
  · have eM : C8_ifLead M lead what = ((-2), M) := by unfold C8_ifLead; rw [if_pos w0]
    have eC : C7_ifLead F lead what = ((-2), F) := by
      unfold C7_ifLead
      by_cases q : lead < 0
      · rw [if_pos q]
      · rw [if_neg q, if_pos (w1.resolve_left q)]
    rw [eM, eC]
    exact ⟨fun a b => absurd (w1.resolve_left a) b, fun a => absurd w0 a, rfl, h⟩
  · obtain ⟨s1, s2, v0, v1, v2⟩ := G_lead (W := F 1) h.1 hc k2
    refine ⟨fun _ _ _ _ => s2, fun _ _ => s1, ?_⟩
    have l1 : ¬ nI k < 0 := nI_pos (by omega)
    have l2 : ¬ nI 20 < nI k := by rw [nI_ltI (by decide) (by omega)]; omega
    rcases wi_ok2 (v := what) (a := 0) (b := 2) (by decide) (by decide) with ⟨u0, u1⟩ | ⟨u0, w, -, w2, rfl⟩
    · have eM : C8_ifLead M (nI k) what = ((-2), M) := by unfold C8_ifLead; rw [if_neg w0, if_pos u0]
      have eC : C7_ifLead F (nI k) what = ((-2), F) := by
        unfold C7_ifLead
        rw [if_neg l1, if_neg l2]
        by_cases q : what < 0
        · rw [if_pos q]
        · rw [if_neg q, if_neg (Int32.not_le.mpr (u1.resolve_left q))]
      rw [eM, eC]; exact ⟨rfl, h⟩
    · have eM : C8_ifLead M (nI k) (nI w) = ((C8_withLead M (nI k) (nI w)).1, (C8_withLead M (nI k) (nI w)).2) := by
        unfold C8_ifLead; rw [if_neg w0, if_neg u0]
      have eC : (C7_ifLead F (nI k) (nI w)) = ((if nI w = nI 0 then (C7_settleTrialWithLead F (nI k)) 1 0 1 - (C7_settleTrialWithLead F (nI k)) 0 0 1 else if nI w = nI 1 then (C7_settleTrialWithLead F (nI k)) 1 7 0 - (C7_settleTrialWithLead F (nI k)) 0 7 0 else C7_wrongInTrial (C7_settleTrialWithLead F (nI k))), C7_settleTrialWithLead F (nI k)) := by
        unfold C7_ifLead
        rw [if_neg l1, if_neg l2, if_neg (nI_pos (by omega)), if_pos ((nI_leI (by omega) (by decide)).mpr w2)]
        try dsimp only
        split
        · rfl
        · split <;> rfl
      rw [eM, eC]
      refine ⟨?_, Wh_try h _ _⟩
      have k0 : C7_settleTrialWithLead F (nI k) 0 = F 0 := k_settleT F _ (by decide)
      have k1 : C7_settleTrialWithLead F (nI k) 1 = C2_letArriveUpTo (up1 (C2_copyFrom (F 1) (F 0)) 1 0 (nI k)) (nI 2000000000) := by rw [tryL_eq, setF_eq]
      unfold C7_wrongInTrial
      rw [k0, k1, v0, v1, v2]
      unfold C8_withLead
      try dsimp only
      rcases (show w = 0 ∨ w = 1 ∨ w = 2 by omega) with rfl | rfl | rfl
      · rfl
      · rfl
      · rfl
theorem P_least {c : Nat} {F : Nat → Nat → Nat → Int32} {M : Nat → Nat → Int32} (h : Wh c F M) (hc : c < 2 ^ 29) : (∀ (W : Nat → Nat → Int32) (k : Nat), k < 21 → lauOK (nI 2000000000) 1000000 (up1 (C2_copyFrom W (F 0)) 1 0 (nI k))) ∧ (∀ k : Nat, k < 21 → setOK 5000 (up1 (C8_putAside (llS M k)) 1 0 (nI k))) ∧ (C7_leastLead F).1 = (C8_leastLead M).1 ∧ Wh c (C7_leastLead F).2 (C8_leastLead M).2 := by
  have hl : ∀ k, ∃ F', Wh c F' (llS M k) := by
    intro k
    induction k with
    | zero => exact ⟨F, h⟩
    | succ k ih =>
      obtain ⟨F', h'⟩ := ih
      exact ⟨_, Wh_try h' (nI k) (nI 2)⟩
  refine ⟨fun W k hk => (G_lead (W := W) h.1 hc (show k ≤ 20 by omega)).2.1, fun k hk => ?_, ?_⟩
  · obtain ⟨F', h'⟩ := hl k
    exact (G_lead (W := F' 1) h'.1 hc (show k ≤ 20 by omega)).1
  · have loop : ∀ (q k : Nat) (F0 : Nat → Nat → Nat → Int32) (M0 : Nat → Nat → Int32), k + q = 21 → Wh c F0 M0 → (L7_leastLead q k F0).1 = (L8_leastLead q k M0).1 ∧ Wh c (L7_leastLead q k F0).2 (L8_leastLead q k M0).2 := by
      intro q
      induction q with
      | zero => intro k F0 M0 _ h0; exact ⟨rfl, h0⟩
      | succ q ih =>
        intro k F0 M0 hk h0
        obtain ⟨-, -, -, -, v2⟩ := G_lead (W := F0 1) h0.1 hc (show k ≤ 20 by omega)
        have k0 : C7_settleTrialWithLead F0 (nI k) 0 = F0 0 := k_settleT F0 _ (by decide)
        have k1 : C7_settleTrialWithLead F0 (nI k) 1 = C2_letArriveUpTo (up1 (C2_copyFrom (F0 1) (F0 0)) 1 0 (nI k)) (nI 2000000000) := by rw [tryL_eq, setF_eq]
        have ew : C7_wrongInTrial (C7_settleTrialWithLead F0 (nI k)) = (C8_withLead M0 (nI k) (nI 2)).1 := by
          unfold C7_wrongInTrial
          rw [k0, k1, v2]
          rfl
        unfold L7_leastLead L8_leastLead
        try dsimp only
        rw [ew]
        by_cases z : (C8_withLead M0 (nI k) (nI 2)).1 = 0
        · rw [if_pos z, if_pos z]; exact ⟨rfl, Wh_try h0 _ _⟩
        · rw [if_neg z, if_neg z]; exact ih (k + 1) _ _ (by omega) (Wh_try h0 _ _)
    exact loop 21 0 F M rfl h
