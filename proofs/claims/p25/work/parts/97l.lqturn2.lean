/-! the turns, one by one: add -/
section TURN0
variable {c b : Nat} {F : Nat → Nat → Nat → Int32} {M G : Nat → Nat → Int32}
theorem fr2 {M : Nat → Nat → Int32} {a : Nat} (h : a ≠ 2) : C8_putAside M a = M a := (pa_at M).1 a h
/-- a word stands in its row -/
theorem S_row {n s k w : Nat} (h : lqLS G M n) (hs : s < 2) (hk : k < 20) (hw : w < 16) (ek : M 1 (11 + s) = nI k) : lqLS (up1 (up1 G 4 ((20 * s) + k) (nI w)) 0 (11 + s) (up1 G 4 ((20 * s) + k) (nI w) 0 (11 + s) + nI 1)) (up1 (up1 M 1 ((109 + (20 * s)) + k) (nI w)) 1 (11 + s) (up1 M 1 ((109 + (20 * s)) + k) (nI w) 1 (11 + s) + nI 1)) n := by
  obtain ⟨⟨h1, h2, h3, h4, h5, h6⟩, r⟩ := h
  have q : G 0 (11 + s) = M 1 (11 + s) := h1 0 (11 + s) (show DL 0 (11 + s) from Or.inl ⟨rfl, by omega⟩)
  have eG : up1 G 4 ((20 * s) + k) (nI w) 0 (11 + s) + nI 1 = nI (k + 1) := by rw [lup_ne (by omega), q, ek, nI_add]
  have eM : up1 M 1 ((109 + (20 * s)) + k) (nI w) 1 (11 + s) + nI 1 = nI (k + 1) := by rw [up1_in (by omega), ek, nI_add]
  rw [eG, eM]
  have m' : ∀ j, j ≠ 11 + s → j ≠ (109 + (20 * s)) + k → up1 (up1 M 1 ((109 + (20 * s)) + k) (nI w)) 1 (11 + s) (nI (k + 1)) 1 j = M 1 j := fun j x y => by rw [up1_in x, up1_in y]
  have gc : ∀ c, c ≠ 0 → c ≠ 4 → up1 (up1 G 4 ((20 * s) + k) (nI w)) 0 (11 + s) (nI (k + 1)) c = G c := fun c x y => by
    show setC _ 0 _ c = _
    rw [setC_ne x]
    exact setC_ne y
  have g0 : ∀ i, i ≠ 11 + s → up1 (up1 G 4 ((20 * s) + k) (nI w)) 0 (11 + s) (nI (k + 1)) 0 i = G 0 i := fun i x => by rw [up1_in x, lup_ne (by omega)]
  have tc : ∀ s', s' < 2 → tN (up1 (up1 M 1 ((109 + (20 * s)) + k) (nI w)) 1 (11 + s) (nI (k + 1)) 1 (11 + s')) = if s' = s then k + 1 else tN (M 1 (11 + s')) := fun s' z => by
    by_cases y : s' = s
    · subst y; rw [up1_eq, if_pos rfl, tN_nI (by omega)]
    · rw [m' _ (by omega) (by omega), if_neg y]
  have t20 : ∀ s', s' < 2 → tN (M 1 (11 + s')) ≤ 20 := fun s' z => by
    match s', z with
    | 0, _ => exact r.2.2.2.1
    | 1, _ => exact r.2.2.2.2
  refine ⟨⟨?_, LHd_of h2 (fun j _ => by rw [gc 3 (by decide) (by decide)]) (fun j x y => m' j (by omega) (by omega)), fun s' hs' j hj => ?_, LPn_of h4 (gc 5 (by decide) (by decide)) (m' 9 (by omega) (by omega)) (fun j x y => m' j (by omega) (by omega)) r.2.2.1, LCh_of h5 (gc 6 (by decide) (by decide)) (gc 7 (by decide) (by decide)) (m' 10 (by omega) (by omega)) (fun j x => m' j (by omega) (by omega)), LNt_of h6 (gc 8 (by decide) (by decide)) (m' 5 (by omega) (by omega)) (fun j x y => m' j (by omega) (by omega))⟩, ?_, ?_, ?_, ?_, ?_⟩
  · intro c i hd
    by_cases z : c = 0
    · subst z
      show _ = up1 (up1 M 1 ((109 + (20 * s)) + k) (nI w)) 1 (11 + s) (nI (k + 1)) 1 i
      have hi : i < 13 := by unfold DL at hd; omega
      by_cases y : i = 11 + s
      · subst y; rw [up1_eq, up1_eq]
      · rw [g0 i y, m' i y (by omega)]
        exact h1 0 i hd
    · have hp2 := lp_pl hd
      have ne : pl c i ≠ 11 + s := fun e => z (pl_inj hd (show DL 0 (11 + s) from Or.inl ⟨rfl, by omega⟩) (by rw [e]; rfl)).1
      rw [gc c z (by unfold DL at hd; omega), m' _ ne (by omega)]
      exact h1 c i hd
  · rw [tc s' hs'] at hj
    have t2 := t20 s' hs'
    show setC _ 0 _ 4 _ = _
    rw [setC_ne (by decide)]
    by_cases y : s' = s
    · subst y
      rw [if_pos rfl] at hj
      by_cases x : j = k
      · subst x
        rw [up1_eq, up1_in (by omega), up1_eq]
      · rw [up1_in (by omega), m' _ (by omega) (by omega)]
        exact h3 s' hs' j (by rw [ek, tN_nI (by omega)]; omega)
    · rw [if_neg y] at hj
      rw [up1_in (by omega), m' _ (by omega) (by omega)]
      exact h3 s' hs' j hj
  · rw [m' 10 (by omega) (by omega)]; exact r.1
  · rw [m' 3 (by omega) (by omega)]; exact r.2.1
  · rw [m' 9 (by omega) (by omega)]; exact r.2.2.1
  · have := tc 0 (by decide)
    have q := t20 0 (by decide)
    rw [show 11 + 0 = 11 from rfl] at this q
    rw [this]
    split <;> omega
  · have := tc 1 (by decide)
    have q := t20 1 (by decide)
    rw [show 11 + 1 = 12 from rfl] at this q
    rw [this]
    split <;> omega
theorem nd_row {s k w : Nat} (nd : Nd (M 1)) (hs : s < 2) (hk : k < 20) (hw : w < 16) (ek : M 1 (11 + s) = nI k) : Nd (up1 (up1 M 1 ((109 + (20 * s)) + k) (nI w)) 1 (11 + s) (nI (k + 1)) 1) := by
  obtain ⟨q1, ⟨a, a1, a2, a3⟩, ⟨d, d1, d2, d3⟩, ⟨y, y1, y2⟩, q5⟩ := nd
  have m' : ∀ j, j ≠ 11 + s → j ≠ (109 + (20 * s)) + k → up1 (up1 M 1 ((109 + (20 * s)) + k) (nI w)) 1 (11 + s) (nI (k + 1)) 1 j = M 1 j := fun j x y => by rw [up1_in x, up1_in y]
  refine ⟨by rw [m' 9 (by omega) (by omega)]; exact q1, ?_, ?_, ⟨y, y1, by rw [m' 2 (by omega) (by omega)]; exact y2⟩, fun j hj => by rw [m' _ (by omega) (by omega)]; exact q5 j hj⟩
  · by_cases z : s = 0
    · subst z
      refine ⟨k + 1, by omega, up1_eq, fun _ => ?_⟩
      by_cases x : k = 0
      · subst x
        exact ⟨w, hw, by rw [up1_in (by decide)]; exact up1_eq⟩
      · rw [m' 109 (by omega) (by omega)]
        have ea : a = k := (nI_eq (by omega) (by omega)).mp (a2.symm.trans ek)
        exact a3 (by omega)
    · refine ⟨a, a1, by rw [m' 11 (by omega) (by omega)]; exact a2, fun x => ?_⟩
      rw [m' 109 (by omega) (by omega)]
      exact a3 x
  · by_cases z : s = 1
    · subst z
      refine ⟨k + 1, by omega, up1_eq, fun _ => ?_⟩
      by_cases x : k = 0
      · subst x
        exact ⟨w, hw, by rw [up1_in (by decide)]; exact up1_eq⟩
      · rw [m' 129 (by omega) (by omega)]
        have ea : d = k := (nI_eq (by omega) (by omega)).mp (d2.symm.trans ek)
        exact d3 (by omega)
    · refine ⟨d, d1, by rw [m' 12 (by omega) (by omega)]; exact d2, fun x => ?_⟩
      rw [m' 129 (by omega) (by omega)]
      exact d3 x
theorem turn0 (ts : TS c b F M G) (hc : c + 1 < 2 ^ 29) {a w : Nat} (v : Nat) (ha : a < 2) (hw : w < 16) : (C7_add F (nI a) (nI w)).1 = (CL_due0 G a w v).1 ∧ Out c b M (C7_add F (nI a) (nI w)).2 (CL_due0 G a w v).1 (CL_due0 G a w v).2 := by
  obtain ⟨wh, lq, phi⟩ := ts
  obtain ⟨b1, eq, wh'⟩ := P_add wh hc (nI a) (nI w)
  obtain ⟨x, x4, ex⟩ := Wh_cnt wh
  obtain ⟨L, n, p, nS, t, ph, h, i, ht, o⟩ := id wh.1
  have n6 := i.1.2.1
  obtain ⟨M1, hM1⟩ : ∃ z, C8_putAside M = z := ⟨_, rfl⟩
  have m1 : M1 1 = M 1 := by rw [← hM1]; exact fr2 (by decide)
  have m0 : M1 0 = M 0 := by rw [← hM1]; exact fr2 (by decide)
  have ms : ∀ j, j < 719 → M1 2 j = M 1 j := fun j hj => by rw [← hM1]; exact (pa_at M).2 j hj
  have h1 : Rel (F 0) (M1 1) L n p := by rw [m1]; exact h
  have cap : Inv (F 0) L n p nS t ph (n + p + wtN (F 0)) := ⟨i.1, i.2.1, i.2.2.1, i.2.2.2.1, i.2.2.2.2.1, Nat.le_refl _⟩
  have cb : n + p + wtN (F 0) ≤ c := i.2.2.2.2.2
  obtain ⟨q1, q2, L', p', ph', R, I, of⟩ := G_add h1 cap (nI a) (nI w) (by omega) (by omega)
  have eM : C8_add M (nI a) (nI w) = C8_recorded (C8_adds M1 (nI a) (nI w)).2 (C8_adds M1 (nI a) (nI w)).1 := by rw [← hM1]; rfl
  -- what the law says
  have lqs : lqLS G M1 50 := ⟨by rw [m1]; exact lq, rn_of h1 cap⟩
  obtain ⟨k, k20, ek⟩ : ∃ k, k ≤ 20 ∧ M1 1 (11 + a) = nI k := by
    obtain ⟨-, ⟨x1, x2, x3, -⟩, ⟨y1, y2, y3, -⟩, -⟩ := nd_of h1 cap o
    rcases (show a = 0 ∨ a = 1 by omega) with z | z
    · subst z; exact ⟨x1, x2, x3⟩
    · subst z; exact ⟨y1, y2, y3⟩
  have tk : tN (M1 1 (11 + a)) = k := by rw [ek]; exact tN_nI (by omega)
  have qa : G 0 (11 + a) = M1 1 (11 + a) := LQ_q lqs.1 (by omega)
  have ea : C8_adds M1 (nI a) (nI w) = if k = 20 then ((-3), M1) else ((C8_letGo (up1 (up1 M1 1 ((109 + (20 * a)) + k) (nI w)) 1 (11 + a) (up1 M1 1 ((109 + (20 * a)) + k) (nI w) 1 (11 + a) + nI 1))) 1 (11 + a), C8_letGo (up1 (up1 M1 1 ((109 + (20 * a)) + k) (nI w)) 1 (11 + a) (up1 M1 1 ((109 + (20 * a)) + k) (nI w) 1 (11 + a) + nI 1))) := by
    unfold C8_adds C8_isSender
    rw [win1 (Nat.zero_le a) (by omega) (by decide), if_neg n1n0, win1 (Nat.zero_le w) (by omega) (by decide), if_neg n1n0]
    try dsimp only
    rw [tN_nI (show a < 2 ^ 31 by omega), tk]
  have ed : CL_due0 G a w v = if k = 20 then ((-3), G) else ((CL_serves (up1 (up1 G 4 ((20 * a) + k) (nI w)) 0 (11 + a) (up1 G 4 ((20 * a) + k) (nI w) 0 (11 + a) + nI 1))) 0 (11 + a), CL_serves (up1 (up1 G 4 ((20 * a) + k) (nI w)) 0 (11 + a) (up1 G 4 ((20 * a) + k) (nI w) 0 (11 + a) + nI 1))) := by
    unfold CL_due0
    try dsimp only
    rw [qa, tk]
  have both : (C8_adds M1 (nI a) (nI w)).1 = (CL_due0 G a w v).1 ∧ LQ (CL_due0 G a w v).2 ((C8_adds M1 (nI a) (nI w)).2 1) := by
    rw [ea, ed]
    by_cases z : k = 20
    · rw [if_pos z, if_pos z]
      exact ⟨rfl, lqs.1⟩
    · rw [if_neg z, if_neg z]
      have r1 := S_row lqs ha (show k < 20 by omega) hw ek
      have nd := nd_row (nd_of h1 cap o) ha (show k < 20 by omega) hw ek
      have e1 : up1 M1 1 ((109 + (20 * a)) + k) (nI w) 1 (11 + a) + nI 1 = nI (k + 1) := by rw [up1_in (by omega), ek, nI_add]
      rw [e1] at r1 ⊢
      obtain ⟨hp, ⟨a', ha', ea', wa'⟩, ⟨b', hb', eb', wb'⟩, ⟨y, hy, ey⟩, -⟩ := nd
      have s := S_serve r1 (by decide) hp ea' eb' ha' hb' wa' wb' ey hy
      exact ⟨(LQ_q s.1 (by omega)).symm, s.1⟩
  obtain ⟨o1, o2, o3⟩ := rec_out (M := M) (X := (C8_adds M1 (nI a) (nI w)).2) (r := (C8_adds M1 (nI a) (nI w)).1) (x := x) (by rw [fr_adds (by decide), m0]; exact ex) x4 (fun j hj => by rw [fr_adds (by decide)]; exact ms j hj) (fun z j _ => by rw [(q2 z).2, m1])
  have e9 : (C8_add M (nI a) (nI w)).1 = (C8_adds M1 (nI a) (nI w)).1 := by
    rw [eM]
    unfold C8_recorded
    split <;> rfl
  refine ⟨by rw [eq, e9]; exact both.1, (C8_add M (nI a) (nI w)).2, wh', ?_, ?_, ?_, ?_⟩
  · rw [eM, o1]; exact both.2
  · rw [eM, o1]
    obtain ⟨f1, f2, f3, -⟩ := phi_is R I (by omega)
    obtain ⟨g1, g2, g3, -⟩ := phi_is h i (by omega)
    unfold PhiB at phi ⊢
    rw [f1, f2, f3]
    rw [g1, g2, g3] at phi
    have hp7 := inv_p cap
    have hcap := I.2.2.2.2.2
    have hw8 : wtN (C2_addWord (F 0) (nI a) (nI w)).2 ≤ wtN (F 0) + 8 := by omega
    have : 200 * (nS + 1) * wtN (C2_addWord (F 0) (nI a) (nI w)).2 ≤ 200 * (nS + 1) * (wtN (F 0) + 8) := Nat.mul_le_mul_left _ hw8
    have e8 : 200 * (nS + 1) * (wtN (F 0) + 8) = 200 * (nS + 1) * wtN (F 0) + 200 * (nS + 1) * 8 := Nat.mul_add _ _ _
    rw [e8] at this
    have q : 200 * (nS + 1) * 8 ≤ 1400 * 8 := Nat.mul_le_mul_right _ (by omega)
    omega
  · rw [← both.1, eM]; exact o2
  · rw [← both.1, eM]; exact o3
end TURN0
