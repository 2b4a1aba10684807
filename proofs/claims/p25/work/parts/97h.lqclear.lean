/-! a new line, on both sides -/
theorem LQ_cl {G M : Nat → Nat → Int32} {nS : Nat} (hs : ∀ i, i < 3 → G 0 i = M 1 i) (g3 : G 0 3 = nI nS) (g8 : G 0 8 = (-5)) (g0 : ∀ i, 3 < i → i < 13 → i ≠ 8 → G 0 i = nI 0) (g1 : ∀ i, i < 21 → G 1 i = nI 2) (g2 : ∀ i, i < 42 → G 2 i = nI 0) (gf : ∀ i, i < 21 → G 3 i = if i % 3 = 0 then nI 1 else nI 0) (gh : ∀ k, k < 6 → G 3 (21 + k) = (-1)) : LQ G (C8_clean M (nI nS) 1) := by
  obtain ⟨r3, r4, r8, r7, r0, r1, r2, r11, r12, r5, r6, r9, r10⟩ := cln_rest M (nI nS)
  have z0 : tN (nI 0) = 0 := tN_nI (by decide)
  refine ⟨?_, fun k hk => Or.inl ⟨gh k hk, cln_held M (nI nS) hk⟩, fun s hs j hj => ?_, fun j hj => ?_, fun j hj => ?_, Or.inl r5⟩
  · intro c i hd
    rcases hd with ⟨rfl, hi⟩ | ⟨rfl, hi⟩ | ⟨rfl, hi⟩ | ⟨rfl, hi⟩
    · show G 0 i = C8_clean M (nI nS) 1 i
      match i, hi with
      | 0, _ => rw [r0]; exact hs 0 (by decide)
      | 1, _ => rw [r1]; exact hs 1 (by decide)
      | 2, _ => rw [r2]; exact hs 2 (by decide)
      | 3, _ => rw [r3]; exact g3
      | 4, _ => rw [r4]; exact g0 4 (by decide) (by decide) (by decide)
      | 5, _ => rw [r5]; exact g0 5 (by decide) (by decide) (by decide)
      | 6, _ => rw [r6]; exact g0 6 (by decide) (by decide) (by decide)
      | 7, _ => rw [r7]; exact g0 7 (by decide) (by decide) (by decide)
      | 8, _ => rw [r8]; exact g8
      | 9, _ => rw [r9]; exact g0 9 (by decide) (by decide) (by decide)
      | 10, _ => rw [r10]; exact g0 10 (by decide) (by decide) (by decide)
      | 11, _ => rw [r11]; exact g0 11 (by decide) (by decide) (by decide)
      | 12, _ => rw [r12]; exact g0 12 (by decide) (by decide) (by decide)
    · have e := cln_de M (nI nS) (k := i / 3) (f := i % 3) (by omega) (by omega)
      rw [(ps_del (k := i / 3) (w := i % 3) (by omega) (by omega)).1, show (13 + (3 * (i / 3))) + i % 3 = 13 + i by omega] at e
      rw [g1 i hi]
      exact e.symm
    · have hf : pe6 (i % 6) < 6 := by unfold pe6; split <;> (try omega); split <;> (try omega); split <;> (try omega); split <;> omega
      have e := cln_lk M (nI nS) (k := i / 6) (f := pe6 (i % 6)) (by omega) (by omega)
      rw [(ps_lk (k := i / 6) (by omega) hf).1, if_neg (by omega)] at e
      have p := (pl_e (k := i / 6) (f := i % 6) (by omega) (by omega)).2
      rw [show 6 * (i / 6) + i % 6 = i by omega] at p
      rw [g2 i hi, p]
      exact e.symm
    · rw [gf i hi]
      by_cases c0 : i % 3 = 0
      · have p := (pl_f0 (k := i / 3) (by omega)).2
        rw [show 3 * (i / 3) = i by omega] at p
        have e := cln_lk M (nI nS) (k := i / 3) (f := 6) (by omega) (by decide)
        rw [(ps_rest (k := i / 3) (by omega)).1, if_pos rfl] at e
        rw [p, e, if_pos c0]
      · by_cases c1 : i % 3 = 1
        · have p := (pl_f1 (k := i / 3) (by omega)).2
          rw [show 3 * (i / 3) + 1 = i by omega] at p
          have e := cln_lk M (nI nS) (k := i / 3) (f := 7) (by omega) (by decide)
          rw [(ps_wait (k := i / 3) (by omega)).1, if_neg (by decide)] at e
          rw [p, e, if_neg c0]
        · have p := (pl_f2 (k := i / 3) (by omega)).2
          rw [show 3 * (i / 3) + 2 = i by omega] at p
          have e := cln_lk M (nI nS) (k := i / 3) (f := 8) (by omega) (by decide)
          rw [(ps_off (k := i / 3) (by omega)).1, if_neg (by decide)] at e
          rw [p, e, if_neg c0]
  · exfalso
    match s, hs with
    | 0, _ => rw [show 11 + 0 = 11 from rfl, r11, z0] at hj; omega
    | 1, _ => rw [show 11 + 1 = 12 from rfl, r12, z0] at hj; omega
  · exfalso
    rw [r9, z0] at hj; omega
  · exfalso
    rw [r10, z0] at hj; omega
theorem bl_1 (G : Nat → Nat → Int32) (nS : Nat) : (∀ i, i < 3 → CL_builds G nS 0 i = G 0 i) ∧ CL_builds G nS 0 3 = nI nS ∧ CL_builds G nS 0 8 = (-5) ∧ (∀ i, 3 < i → i < 13 → i ≠ 8 → CL_builds G nS 0 i = nI 0) ∧ (∀ i, i < 21 → CL_builds G nS 1 i = nI 2) ∧ (∀ i, i < 42 → CL_builds G nS 2 i = nI 0) ∧ (∀ i, i < 21 → CL_builds G nS 3 i = if i % 3 = 0 then nI 1 else nI 0) ∧ ∀ k, k < 6 → CL_builds G nS 3 (21 + k) = (-1) := by
  obtain ⟨V3, h3⟩ : ∃ z, up1 (up1 (setC G 0 (fil (G 0) 3 13 (nI 0))) 0 3 (nI nS)) 0 8 (-5) = z := ⟨_, rfl⟩
  have e : CL_builds G nS = setC (setC (bl2 V3 21) 2 (fil (bl2 V3 21 2) 0 42 (nI 0))) 3 (fil (setC (bl2 V3 21) 2 (fil (bl2 V3 21 2) 0 42 (nI 0)) 3) 21 27 (-1)) := by
    unfold CL_builds
    try dsimp only
    rw [h3]
  have b1 : bl2 V3 21 1 = fil (V3 1) 0 21 (nI 2) := by unfold bl2; rw [setC_ne (by decide), setC_eq]
  have b3 : bl2 V3 21 3 = fi3 (V3 3) 21 := by unfold bl2; rw [setC_eq]
  have b0 : bl2 V3 21 0 = V3 0 := by unfold bl2; rw [setC_ne (by decide), setC_ne (by decide)]
  have c0 : CL_builds G nS 0 = V3 0 := by rw [e, setC_ne (by decide), setC_ne (by decide), b0]
  have c1 : CL_builds G nS 1 = fil (V3 1) 0 21 (nI 2) := by rw [e, setC_ne (by decide), setC_ne (by decide), b1]
  have c2 : CL_builds G nS 2 = fil (bl2 V3 21 2) 0 42 (nI 0) := by rw [e, setC_ne (by decide), setC_eq]
  have c3 : CL_builds G nS 3 = fil (fi3 (V3 3) 21) 21 27 (-1) := by rw [e, setC_eq, setC_ne (by decide), b3]
  refine ⟨fun i hi => ?_, ?_, ?_, fun i a b c => ?_, fun i hi => ?_, fun i hi => ?_, fun i hi => ?_, fun k hk => ?_⟩
  · rw [c0, ← h3, up1_in (by omega), up1_in (by omega), setC_eq]
    exact if_neg (by omega)
  · rw [c0, ← h3, up1_in (by decide), up1_eq]
  · rw [c0, ← h3, up1_eq]
  · rw [c0, ← h3, up1_in c, up1_in (by omega), setC_eq]
    exact if_pos (by omega)
  · rw [c1]; exact if_pos (by omega)
  · rw [c2]; exact if_pos (by omega)
  · rw [c3]
    show (if 21 ≤ i ∧ i < 27 then _ else fi3 (V3 3) 21 i) = _
    rw [if_neg (by omega)]
    exact if_pos hi
  · rw [c3]; exact if_pos (by omega)
theorem LQ_builds {G M : Nat → Nat → Int32} {nS : Nat} (hs : ∀ i, i < 3 → G 0 i = M 1 i) : LQ (CL_builds G nS) (C8_clean M (nI nS) 1) := by
  obtain ⟨a, b, c, d, e, f, g, h⟩ := bl_1 G nS
  exact LQ_cl (fun i hi => by rw [a i hi]; exact hs i hi) b c d e f g h
/-- the law's rows at its start -/
theorem LQ_new : LQ (up1 (CL_builds (fun _ _ => 0) 3) 0 0 (nI 1)) (mo_0 1) := by
  obtain ⟨a, b, c, d, e, f, g, h⟩ := bl_1 (fun _ _ => 0) 3
  show LQ _ (C8_clean (up1 z_2 1 0 (nI 1)) (nI 3) 1)
  refine LQ_cl (fun i hi => ?_) (by rw [up1_in (by decide)]; exact b) (by rw [up1_in (by decide)]; exact c) (fun i x y z => by rw [up1_in (by omega)]; exact d i x y z) (fun i hi => by rw [lup_ne (by omega)]; exact e i hi) (fun i hi => by rw [lup_ne (by omega)]; exact f i hi) (fun i hi => by rw [lup_ne (by omega)]; exact g i hi) (fun k hk => by rw [lup_ne (by omega)]; exact h k hk)
  match i, hi with
  | 0, _ => rw [up1_eq]; rfl
  | 1, _ => rw [up1_in (by decide), a 1 (by decide)]; rfl
  | 2, _ => rw [up1_in (by decide), a 2 (by decide)]; rfl
