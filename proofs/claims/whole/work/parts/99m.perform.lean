/-! perform, on both sides -/
theorem Wh_q {c : Nat} {F : Nat → Nat → Nat → Int32} {M S : Nat → Nat → Int32} (h : Wh c F M) (e : ∀ a, a ≠ 0 → a ≠ 1 → a ≠ 2 → S a = M a) (e0 : ∀ j, j < 3 → S 0 j = M 0 j) : Wh c F (setC S 1 (M 1)) := by
  obtain ⟨g, hh, hs, ht⟩ := h
  have s1 : setC S 1 (M 1) 1 = M 1 := setC_eq _ _ _
  have sa : ∀ a, a ≠ 0 → a ≠ 1 → a ≠ 2 → setC S 1 (M 1) a = M a := fun a h0 h1 h2 => (setC_ne h1).trans (e a h0 h1 h2)
  have s0 : ∀ j, j < 3 → setC S 1 (M 1) 0 j = M 0 j := fun j hj => by rw [setC_ne (by decide)]; exact e0 j hj
  exact ⟨by rw [s1]; exact g, Hs_frame hh (Nat.le_refl c) rfl rfl (fun _ _ => rfl) (s0 0 (by decide)) (sa 3 (by decide) (by decide) (by decide)), Sn_frame hs (Nat.le_refl c) rfl rfl (s0 1 (by decide)) (sa 4 (by decide) (by decide) (by decide)), Tx_frame ht rfl (s0 2 (by decide)) (sa 5 (by decide) (by decide) (by decide))⟩
theorem Wh_up {c c' : Nat} {F : Nat → Nat → Nat → Int32} {M : Nat → Nat → Int32} (h : Wh c F M) (hc : c ≤ c') : Wh c' F M := Wh_frame h hc (fun _ _ => rfl) (fun _ _ _ => rfl) (Gd_up h.1 hc)
theorem Ch_le {Tf : Nat → Nat → Int32} {X5 : Nat → Int32} {len : Nat} : ∀ (k n pos : Nat) (T : Nat → Nat → Int32), Ch Tf X5 len k n pos T → k = 0 ∨ n + k ≤ 20 := by
  intro k
  induction k with
  | zero => intro n pos T h; exact Or.inl rfl
  | succ k ih =>
    intro n pos T h
    obtain ⟨-, -, -, hn, -, -, -, -, pos', T2, -, -, h⟩ := h
    rcases ih _ _ _ h with z | z
    · omega
    · omega
theorem nI_nn {n : Nat} (h : n < 2 ^ 31) : 0 ≤ nI n := Int32.not_lt.mp (nI_pos h)
theorem L7_zero (i : Nat) (F : Nat → Nat → Nat → Int32) : L7_perform 0 i F = C7_accept F (nI (tN (F 7 0 1))) := rfl
theorem L_perf {c : Nat} {G : Nat → Nat → Nat → Int32} {Mf Tf : Nat → Nat → Int32} {X5 : Nat → Int32} {len : Nat} (hG : Wh c G Mf) (g7 : G 7 = Tf) (m5 : Mf 5 = X5) (ml : Mf 0 2 = nI len) (hlen : len ≤ 60) (hc : c + 22 < 2 ^ 29) : ∀ (k q i pos qm : Nat) (T V M : Nat → Nat → Int32), Ch Tf X5 len k i pos T → (∀ a, a ≠ 0 → a ≠ 1 → a ≠ 2 → M a = Mf a) → (∀ j, j < 719 → M 2 j = Mf 1 j) → (∀ j, j < 3 → M 0 j = Mf 0 j) → M 0 3 = nI pos → Gd (c + i) V (M 1) → k ≤ q → k ≤ qm → i + k ≤ 20 →
    mpOK (qm + 1) M ∧ (L7_perform q i (setF G 1 V)).1 = (L8_perform (qm + 1) i M).1 ∧ Wh (c + 20) (L7_perform q i (setF G 1 V)).2 (L8_perform (qm + 1) i M).2 := by
  have v00 : vp_in (Mf 0 0) 5 := (Wh_mn hG).2.2.2.2.1
  have s7 : ∀ V : Nat → Nat → Int32, setF G 1 V 7 = Tf := fun V => (setF_ne (by decide)).trans g7
  have s1 : ∀ V : Nat → Nat → Int32, setF G 1 V 1 = V := fun V => setF_eq G 1 V
  intro k
  induction k with
  | zero =>
    intro q i pos qm T V M ch ea e2 e0 e3 g hq hqm hi
    obtain ⟨rfl, tn⟩ := ch
    have le : M 0 2 ≤ M 0 3 := by rw [e0 2 (by decide), ml, e3]; exact (nI_leI (by omega) (by omega)).mpr (by omega)
    have en : tN (Tf 0 1) = i := by rw [tn]; exact tN_nI (by omega)
    have l7 : L7_perform q i (setF G 1 V) = C7_accept (setF G 1 V) (nI i) := by
      cases q with
      | zero => rw [L7_zero, s7, en]
      | succ q => rw [L7_step, s7, en, if_pos (Nat.le_refl i)]
    have l8 : L8_perform (qm + 1) i M = (nI i, C8_push M) := by rw [P8_step, if_pos le]
    have a2 : Gd c (G 0) (M 2) := Gd_m hG.1 e2
    have hh := Wh_q hG ea e0
    obtain ⟨q1, q2⟩ := T_acc (c' := c + 20) (X := V) (M2 := M) (M' := C8_push M) hh (by omega) (nI_nn (show i < 2 ^ 31 by omega)) a2 (fun a h1 _ => (setC_ne h1).symm) (fun _ _ _ => rfl) (by
      rw [push_fr.1 1 (by decide) (by decide)]
      exact Gd_up g (by omega))
    rw [l7, l8, mp_step]
    exact ⟨⟨by rw [e0 0 (by decide)]; exact v00, fun z => absurd le z⟩, q1, q2⟩
  | succ k ih =>
    intro q i pos qm T V M ch ea e2 e0 e3 g hq hqm hi
    have tn := Ch_n _ _ _ _ ch
    obtain ⟨⟨M0, m05, t0⟩, hp, e, hn, c1, f2, f3, f4, pos', T2, pl, p2, ch⟩ := ch
    obtain ⟨q, rfl⟩ : ∃ z, q = z + 1 := ⟨q - 1, by omega⟩
    obtain ⟨qm, rfl⟩ : ∃ z, qm = z + 1 := ⟨qm - 1, by omega⟩
    have tr : TR T M len pos := TR_fr t0 rfl rfl rfl ((e0 2 (by decide)).trans (ml.trans t0.2.1.symm)) (e3.trans t0.2.2.2.1.symm) ((ea 5 (by decide) (by decide) (by decide)).trans (m5.trans m05.symm))
    obtain ⟨mz, ho⟩ := ord_both tr e hn
    obtain ⟨R, hR⟩ : ∃ z, z = C8_readsOrder M := ⟨_, rfl⟩
    rw [← hR] at ho mz
    rcases ho with ⟨c0, -⟩ | ⟨a, b, x, pos2, T', ha, hb, hx, hpp, tz, eC, r1, r4, r5, r6, t⟩
    · rw [c0] at c1
      exact absurd c1 (by decide)
    · have eV : (C6_readOrder T).2 = stT T' i (nI a) (nI b) (nI x) := by rw [eC]
      obtain ⟨s01, s00, st1, st2, st3, st4, sf⟩ := st_at (T := T') (n := i) (a := nI a) (b := nI b) (x := nI x)
      rw [eV, st2] at f2
      rw [eV, st3] at f3
      rw [eV, st4] at f4
      have ep : pos' = pos2 := by
        have y := p2.symm.trans t.2.2.1
        have := t.2.2.2.2.1
        exact (nI_eq (by omega) (by omega)).mp y
      subst ep
      have hR1 : Gd (c + i) V (R.2 1) := by rw [mz.1 1 (by decide)]; exact g
      obtain ⟨dO, q1, q2, q3⟩ := ord_do (i := i) hR1 (by omega) ha f2 f3 f4 r4 r5 r6
      obtain ⟨D, hD⟩ : ∃ z, z = C8_doesOrder R.2 := ⟨_, rfl⟩
      rw [← hD] at q1 q2 q3
      obtain ⟨W, hW⟩ : ∃ z, z = ordC Tf i V := ⟨_, rfl⟩
      rw [← hW] at q1 q2
      have d3 : D.2 0 3 = nI pos' := by rw [q3 0 (by decide)]; exact t.2.2.2.1
      have da : ∀ a, a ≠ 0 → a ≠ 1 → a ≠ 2 → D.2 a = Mf a := fun a h0 h1 h2 => (q3 a h1).trans ((mz.1 a h0).trans (ea a h0 h1 h2))
      have d2 : ∀ j, j < 719 → D.2 2 j = Mf 1 j := fun j hj => by rw [q3 2 (by decide), mz.1 2 (by decide)]; exact e2 j hj
      have d0 : ∀ j, j < 3 → D.2 0 j = Mf 0 j := fun j hj => by rw [q3 0 (by decide), mz.2 j hj]; exact e0 j hj
      obtain ⟨M2, hM2⟩ : ∃ z, z = up1 D.2 0 3 (D.2 0 3 + nI 1) := ⟨_, rfl⟩
      have n0 : ∀ a, a ≠ 0 → M2 a = D.2 a := fun a h0 => by rw [hM2]; exact setC_ne h0
      have n3 : M2 0 3 = nI (pos' + 1) := by rw [hM2, up1_at, if_pos ⟨rfl, rfl⟩, d3, nI_add]
      have nj : ∀ j, j < 3 → M2 0 j = Mf 0 j := fun j hj => by rw [hM2, up1_at, if_neg (by omega)]; exact d0 j hj
      obtain ⟨k1, k2, k3⟩ := ih q (i + 1) (pos' + 1) qm T2 W.2 M2 ch (fun a h0 h1 h2 => (n0 a h0).trans (da a h0 h1 h2)) (fun j hj => by rw [n0 2 (by decide)]; exact d2 j hj) nj n3 (by rw [n0 1 (by decide)]; exact q2) (by omega) (by omega) (by omega)
      have nle : ¬ M 0 2 ≤ M 0 3 := fun y => by
        rw [e0 2 (by decide), ml, e3, nI_leI (by omega) (by omega)] at y
        omega
      have nti : ¬ tN (Tf 0 1) ≤ i := by rw [tn, tN_nI (by omega)]; omega
      have r1' : ¬ R.1 = 0 := by rw [r1]; decide
      rw [mp_step, L7_step, P8_step, ← hR, ← hD, ← hM2, s7, s1, ← hW, sff, if_neg nti, if_neg nle, if_neg r1', ← q1]
      refine ⟨⟨by rw [e0 0 (by decide)]; exact v00, fun _ => ⟨TR_mt tr, fun _ => ⟨dO, k1⟩⟩⟩, ?_⟩
      by_cases z : 0 ≤ W.1
      · rw [if_pos z, if_pos z]
        exact ⟨k2, k3⟩
      · rw [if_neg z, if_neg z]
        by_cases z5 : W.1 = (-5)
        · rw [if_pos z5, if_pos z5]
          exact ⟨k2, k3⟩
        · rw [if_neg z5, if_neg z5]
          refine ⟨rfl, Wh_up (Wh_back (Wh_q hG da d0) (fun a h1 _ => (setC_ne h1).symm) (fun j hj => ?_)) (by omega)⟩
          rw [setC_eq]
          exact d2 j hj
theorem C7p_eq (F : Nat → Nat → Nat → Int32) : C7_perform F = if (C6_readOrders (F 7)).1 = (-1) then L7_perform 21 0 (setF (setF F 7 (C6_readOrders (F 7)).2) 1 (tr0 F)) else ((-100) - (C6_readOrders (F 7)).1, setF F 7 (C6_readOrders (F 7)).2) := by
  have e1 : setF F 7 (C6_readOrders (F 7)).2 1 = F 1 := setF_ne (by decide)
  have e0 : setF F 7 (C6_readOrders (F 7)).2 0 = F 0 := setF_ne (by decide)
  unfold C7_perform tr0
  try dsimp only
  rw [e1, e0]
theorem C8p_eq (M : Nat → Nat → Int32) : C8_perform M = if (C8_findFault M).1 = (-5) then L8_perform 62 0 (up1 (C8_putAside (C8_findFault M).2) 0 3 (nI 0)) else ((-100) - (C8_findFault M).1, (C8_findFault M).2) := rfl
theorem P_perform {c : Nat} {F : Nat → Nat → Nat → Int32} {M : Nat → Nat → Int32} (h : Wh c F M) (hc : c + 22 < 2 ^ 29) : ffOK 62 (up1 M 0 3 (nI 0)) ∧ ((C8_findFault M).1 = (-5) → mpOK 62 (up1 (C8_putAside (C8_findFault M).2) 0 3 (nI 0))) ∧ txOK (F 7) ∧ poOK (C6_readOrders (F 7)).2 21 0 (tr0 F) ∧ (C7_perform F).1 = (C8_perform M).1 ∧ Wh (c + 20) (C7_perform F).2 (C8_perform M).2 := by
  obtain ⟨g, hh, hs, len, l6, a, b, hx, hp⟩ := id h
  have tok : txOK (F 7) := ⟨by rw [a]; exact vp_in_nI' (by omega), hp⟩
  have g2 : Gd c (tr0 F) (M 1) := Gd_copy g (fun _ _ => rfl)
  have po := po_all (C6_readOrders (F 7)).2 21 0 c (tr0 F) (M 1) g2 (by omega)
  obtain ⟨T0, hT0⟩ : ∃ z, z = up1 (up1 (F 7) 0 2 (nI 0)) 0 1 (nI 0) := ⟨_, rfl⟩
  obtain ⟨M0, hM0⟩ : ∃ z, z = up1 M 0 3 (nI 0) := ⟨_, rfl⟩
  have m0a : ∀ a, a ≠ 0 → M0 a = M a := fun a h0 => by rw [hM0]; exact setC_ne h0
  have m0j : ∀ j, j < 3 → M0 0 j = M 0 j := fun j hj => by rw [hM0, up1_at, if_neg (by omega)]
  have t1 : T0 1 = F 7 1 := by rw [hT0]; exact (setC_ne (by decide)).trans (setC_ne (by decide))
  have t00 : T0 0 0 = F 7 0 0 := by rw [hT0, up1_at, if_neg (by omega), up1_at, if_neg (by omega)]
  have t01 : T0 0 1 = nI 0 := by rw [hT0, up1_at, if_pos ⟨rfl, rfl⟩]
  have t02 : T0 0 2 = nI 0 := by rw [hT0, up1_at, if_neg (by omega), up1_at, if_pos ⟨rfl, rfl⟩]
  have tr : TR T0 M0 len 0 := ⟨t00.trans a, (m0j 2 (by decide)).trans b, t02, by rw [hM0, up1_at, if_pos ⟨rfl, rfl⟩], Nat.zero_le _, l6, fun i hi => by rw [t1, m0a 5 (by decide)]; exact hx i hi⟩
  obtain ⟨ff, mz, -, f00, f1, ⟨n', n20, f01⟩, alt⟩ := rd_both (X5 := M 5) 20 0 0 0 61 T0 M0 tr (m0a 5 (by decide)) t01 (by decide) (by decide) (by decide)
  have eC : C6_readOrders (F 7) = L6_readOrders (20 + 1) 0 T0 := by rw [hT0]; rfl
  have eR : C8_findFault M = L8_findFault (61 + 1) M0 := by rw [hM0]; rfl
  rw [← eC] at f00 f1 f01 alt
  rw [← eR] at mz alt
  rw [hM0] at ff
  obtain ⟨C, hC⟩ : ∃ z, z = C6_readOrders (F 7) := ⟨_, rfl⟩
  obtain ⟨R, hR⟩ : ∃ z, z = C8_findFault M := ⟨_, rfl⟩
  rw [C7p_eq, C8p_eq]
  rw [← hC] at f00 f1 f01 alt po
  rw [← hR] at mz alt
  rw [← hC, ← hR]
  have ra : ∀ a, a ≠ 0 → R.2 a = M a := fun a h0 => (mz.1 a h0).trans (m0a a h0)
  have r0 : ∀ j, j < 3 → R.2 0 j = M 0 j := fun j hj => (mz.2 j hj).trans (m0j j hj)
  have hG : Wh c (setF F 7 C.2) R.2 := by
    refine ⟨?_, Hs_frame hh (Nat.le_refl c) (by rw [setF_ne (by decide)]) (by rw [setF_ne (by decide)]) (fun s _ => setF_ne (by omega)) (r0 0 (by decide)) (ra 3 (by decide)), Sn_frame hs (Nat.le_refl c) (by rw [setF_ne (by decide)]) (setF_ne (by decide)) (r0 1 (by decide)) (ra 4 (by decide)), len, l6, ?_, (r0 2 (by decide)).trans b, fun i hi => ?_, ?_⟩
    · rw [setF_ne (by decide), ra 1 (by decide)]; exact g
    · rw [setF_eq]; exact f00.trans (t00.trans a)
    · rw [setF_eq, f1, t1, ra 5 (by decide)]; exact hx i hi
    · rw [setF_eq, f01]; exact vp_in_nI' (by omega)
  refine ⟨ff, ?_⟩
  rcases alt with ⟨f, f60, q1, q2⟩ | ⟨q1, q2, k, k1, ch⟩
  · have z1 : ¬ C.1 = (-1) := by rw [q1]; exact nI_nem1 (by omega)
    have z2 : ¬ R.1 = (-5) := by rw [q2]; exact nI_ne5 (by omega)
    rw [if_neg z1, if_neg z2]
    refine ⟨fun y => absurd y z2, tok, po, ?_, Wh_up hG (by omega)⟩
    show (-100) - C.1 = (-100) - R.1
    rw [q1, q2]
  · obtain ⟨M3, hM3⟩ : ∃ z, z = up1 (C8_putAside R.2) 0 3 (nI 0) := ⟨_, rfl⟩
    have na : ∀ a, a ≠ 0 → M3 a = C8_putAside R.2 a := fun a h0 => by rw [hM3]; exact setC_ne h0
    have k20 : 0 + k ≤ 20 := by
      rcases Ch_le _ _ _ _ ch with z | z
      · omega
      · exact z
    obtain ⟨p1, p2⟩ := pa_at R.2
    rw [if_pos q1, if_pos q2, ← hM3]
    obtain ⟨w1, w2, w3⟩ := L_perf hG (setF_eq F 7 C.2) (ra 5 (by decide)) ((r0 2 (by decide)).trans b) l6 hc k 21 0 0 61 T0 (tr0 F) M3 ch (fun a h0 _ h2 => (na a h0).trans (p1 a h2)) (fun j hj => by rw [na 2 (by decide)]; exact p2 j hj) (fun j hj => by rw [hM3, up1_at, if_neg (by omega), p1 0 (by decide)]) (by rw [hM3, up1_at, if_pos ⟨rfl, rfl⟩]) (by rw [na 1 (by decide), p1 1 (by decide), ra 1 (by decide)]; exact g2) (by omega) (by omega) k20
    exact ⟨fun _ => w1, tok, po, w2, w3⟩
