/-! each call on both sides: what the code needs, the answers, what is left -/
theorem sff (F : Nat → Nat → Nat → Int32) (A X : Nat → Nat → Int32) : setF (setF F 1 A) 1 X = setF F 1 X := by
  funext a
  by_cases e : a = 1
  · subst e; rw [setF_eq, setF_eq]
  · rw [setF_ne e, setF_ne e, setF_ne e]
theorem add_eq (F : Nat → Nat → Nat → Int32) (s w : Int32) : C7_add F s w = C7_accept (setF F 1 (C2_addWord (tr0 F) s w).2) (C2_addWord (tr0 F) s w).1 := by
  unfold C7_add tr0
  try dsimp only
  rw [sff, setF_eq]
theorem run_eq (F : Nat → Nat → Nat → Int32) (t : Int32) : C7_run F t = C7_accept (setF F 1 (C2_passTicks (tr0 F) t).2) (C2_passTicks (tr0 F) t).1 := by
  unfold C7_run tr0
  try dsimp only
  rw [sff, setF_eq]
theorem del_eq (F : Nat → Nat → Nat → Int32) (l w d : Int32) : C7_setDelay F l w d = C7_accept (setF F 1 (C2_changeDelay (tr0 F) l w d).2) (C2_changeDelay (tr0 F) l w d).1 := by
  unfold C7_setDelay tr0
  try dsimp only
  rw [sff, setF_eq]
/-- what the code of the reference needs -/
def Mn (M : Nat → Nat → Int32) : Prop := vp_in (M 1 11) 21 ∧ vp_in (M 1 12) 21 ∧ vp_in (M 1 9) 20 ∧ vp_in (M 1 10) 99 ∧ vp_in (M 0 0) 5 ∧ vp_in (M 1 3) 7 ∧ 1 ≤ tN (M 1 3)
theorem Wh_mn {c : Nat} {F : Nat → Nat → Nat → Int32} {M : Nat → Nat → Int32} (h : Wh c F M) : Mn M := by
  obtain ⟨⟨L, n, p, nS, t, ph, r, i, ht, o⟩, ⟨x, x4, a, b, -⟩, -⟩ := h
  have n6 := i.1.2.1
  have n1 := i.1.1
  have hl := inv_len i
  obtain ⟨c0, q0, e0, -⟩ := r.2.2.2.2.1 0 (by decide)
  obtain ⟨c1, q1, e1, -⟩ := r.2.2.2.2.1 1 (by decide)
  have m11 : M 1 11 = nI c0 := (R_eq r (c := 27) (i := 0) (by decide)).symm.trans e0
  have m12 : M 1 12 = nI c1 := (R_eq r (c := 28) (i := 0) (by decide)).symm.trans e1
  have m9 : M 1 9 = nI p := r.2.2.2.2.2.1.2.2.2.2.1
  have p8 := r.2.2.2.2.2.1.1
  have m10 : M 1 10 = nI L.length := r.2.2.1.1
  have m3 := R_n3 r i
  refine ⟨by rw [m11]; exact vp_in_nI' (by omega), by rw [m12]; exact vp_in_nI' (by omega), by rw [m9]; exact vp_in_nI' (by omega), by rw [m10]; exact vp_in_nI' (by omega), by rw [b]; exact vp_in_nI' (by omega), by rw [m3]; exact vp_in_nI' (by omega), by rw [m3, tN_nI (show nS < 2 ^ 31 by omega)]; exact n1⟩
theorem Gd_wf {c : Nat} {V : Nat → Nat → Int32} {m : Nat → Int32} (h : Gd c V m) : WF V := by
  obtain ⟨L, n, p, nS, t, ph, r, i, ht, o⟩ := h
  exact wf_of r i
theorem Gd_tr {c : Nat} {F : Nat → Nat → Nat → Int32} {M : Nat → Nat → Int32} (h : Gd c (F 0) (M 1)) : Gd c (tr0 F) (C8_putAside M 1) := by
  rw [(pa_at M).1 1 (by decide)]
  exact Gd_copy h (fun _ _ => rfl)
theorem P_add {c : Nat} {F : Nat → Nat → Nat → Int32} {M : Nat → Nat → Int32} (h : Wh c F M) (hc : c + 1 < 2 ^ 29) (s w : Int32) : boL (C2_addWord (tr0 F) s w).2 ∧ (C7_add F s w).1 = (C8_add M s w).1 ∧ Wh (c + 1) (C7_add F s w).2 (C8_add M s w).2 := by
  have g := Gd_tr h.1
  obtain ⟨L, n, p, nS, t, ph, r, i, ht, o⟩ := g
  obtain ⟨q1, q2, L', p', ph', R, I, of⟩ := G_add r i s w (by omega) hc
  have g' : Gd (c + 1) (C2_addWord (tr0 F) s w).2 ((C8_adds (C8_putAside M) s w).2 1) := ⟨L', n, p', nS, t, ph', R, I, ht, of o⟩
  have eM : C8_add M s w = C8_recorded (C8_adds (C8_putAside M) s w).2 (C8_adds (C8_putAside M) s w).1 := rfl
  rw [add_eq, eM, ← q1]
  refine ⟨Gd_bo g', T_rec h (by omega) ?_ (fun a h1 h2 => (fr_adds h1).trans ((pa_at M).1 a h2)) (fun _ => g') (fun z => ?_)⟩
  · rw [fr_adds (by decide)]
    exact Gd_m h.1 (pa_at M).2
  · rw [(q2 (by rw [← q1]; exact z)).2, (pa_at M).1 1 (by decide)]
    exact Gd_up h.1 (by omega)
theorem P_run {c : Nat} {F : Nat → Nat → Nat → Int32} {M : Nat → Nat → Int32} (h : Wh c F M) (hc : c < 2 ^ 29) (ticks : Int32) : ptOK (tr0 F) ticks ∧ (¬ C8_within ticks (nI 1) (nI 1000) = 0 → (C8_putAside M 1 4) + ticks ≤ nI 1000000 → gtoOK ((C8_putAside M 1 4) + ticks) 5000 (C8_putAside M)) ∧ boL (C2_passTicks (tr0 F) ticks).2 ∧ (C7_run F ticks).1 = (C8_run M ticks).1 ∧ Wh c (C7_run F ticks).2 (C8_run M ticks).2 := by
  have g := Gd_tr h.1
  obtain ⟨L, n, p, nS, t, ph, r, i, ht, o⟩ := g
  obtain ⟨x1, x2, q1, q2, L', n', p', t', ph', R, I, ht', of⟩ := G_run r i ticks ht hc
  have g' : Gd c (C2_passTicks (tr0 F) ticks).2 ((C8_runs (C8_putAside M) ticks).2 1) := ⟨L', n', p', nS, t', ph', R, I, ht', of o⟩
  have eM : C8_run M ticks = C8_recorded (C8_runs (C8_putAside M) ticks).2 (C8_runs (C8_putAside M) ticks).1 := rfl
  rw [run_eq, eM, ← q1]
  refine ⟨x1, x2, Gd_bo g', T_rec h (Nat.le_refl c) ?_ (fun a h1 h2 => (fr_runs h1).trans ((pa_at M).1 a h2)) (fun _ => g') (fun z => ?_)⟩
  · rw [fr_runs (by decide)]
    exact Gd_m h.1 (pa_at M).2
  · rw [(q2 (by rw [← q1]; exact z)).2, (pa_at M).1 1 (by decide)]
    exact h.1
theorem P_undo {c : Nat} {F : Nat → Nat → Nat → Int32} {M : Nat → Nat → Int32} (h : Wh c F M) : (0 < F 8 0 0 → boL (F (3 + hsG F))) ∧ (C7_undo F).1 = (C8_undo M).1 ∧ Wh c (C7_undo F).2 (C8_undo M).2 := by
  obtain ⟨g, hh, hs, ht⟩ := h
  obtain ⟨a, b, d, e⟩ := Hs_undo hh g
  obtain ⟨k1, k2, k7, k8⟩ := kC1_giveBack F
  have m : (∀ q, q ≠ 0 → q ≠ 1 → (C8_undo M).2 q = M q) ∧ ∀ q, q ≠ 0 → (C8_undo M).2 0 q = M 0 q := by
    unfold C8_undo
    by_cases z : M 0 0 = 0
    · rw [if_pos z]; exact ⟨fun _ _ _ => rfl, fun _ _ => rfl⟩
    · rw [if_neg z]
      refine ⟨fun q h0 h1 => (setC_ne h1).trans (setC_ne h0), fun q h0 => ?_⟩
      try dsimp only
      rw [setC_ne (show (0 : Nat) ≠ 1 by decide), up1_at, if_neg (fun z => h0 z.2)]
  refine ⟨e, a, d, b, Sn_frame hs (Nat.le_refl c) k8 k2 (m.2 1 (by decide)) (m.1 4 (by decide) (by decide)), Tx_frame ht k7 (m.2 2 (by decide)) (m.1 5 (by decide) (by decide))⟩
theorem P_keep {c : Nat} {F : Nat → Nat → Nat → Int32} {M : Nat → Nat → Int32} (h : Wh c F M) : (C7_keep F).1 = (C8_keep M).1 ∧ Wh c (C7_keep F).2 (C8_keep M).2 := by
  obtain ⟨g, hh, hs, ht⟩ := h
  have f : (C7_keep F).2 8 = up1 (F 8) 0 1 (nI 1) ∧ (C7_keep F).2 2 = C2_copyFrom (F 2) (F 0) ∧ ∀ a, a ≠ 8 → a ≠ 2 → (C7_keep F).2 a = F a := by
    unfold C7_keep
    try dsimp only
    refine ⟨?_, ?_, fun a h8 h2 => ?_⟩
    · rw [setF_eq, setF_ne (by decide)]
    · rw [setF_ne (by decide), setF_eq]
    · rw [setF_ne h8, setF_ne h2]
  have m : (∀ a, a ≠ 0 → a ≠ 4 → (C8_keep M).2 a = M a) ∧ (C8_keep M).2 0 1 = nI 1 ∧ (∀ i, i ≠ 1 → (C8_keep M).2 0 i = M 0 i) ∧ ∀ j, j < 719 → (C8_keep M).2 4 j = M 1 j := by
    unfold C8_keep
    try dsimp only
    refine ⟨fun a h0 h4 => (setC_ne h0).trans (setC_ne h4), ?_, fun i hi => ?_, fun j hj => ?_⟩
    · rw [up1_at, if_pos ⟨rfl, rfl⟩]
    · rw [up1_at, if_neg (fun z => hi z.2), setC_ne (show (0 : Nat) ≠ 4 by decide)]
    · rw [up1_at, if_neg (by omega), setC_eq]
      exact if_pos hj
  have e1 : (C7_keep F).1 = F 0 0 1 := rfl
  have e2 : (C8_keep M).1 = M 1 4 := rfl
  obtain ⟨f8, f2, fo⟩ := f
  obtain ⟨mo, m01, m0, m4⟩ := m
  refine ⟨?_, ?_, ?_, Or.inr ⟨?_, m01, ?_⟩, Tx_frame ht (fo 7 (by decide) (by decide)) (m0 2 (by decide)) (mo 5 (by decide) (by decide))⟩
  · rw [e1, e2]
    obtain ⟨L, n, p, nS, t, ph, r, -⟩ := g
    exact R_t r
  · rw [fo 0 (by decide) (by decide), mo 1 (by decide) (by decide)]; exact g
  · exact Hs_frame hh (Nat.le_refl c) (by rw [f8, up1_at, if_neg (by decide)]) (by rw [f8]; exact setC_ne (by decide)) (fun s hs => fo _ (by omega) (by omega)) (m0 0 (by decide)) (mo 3 (by decide) (by decide))
  · rw [f8, up1_at, if_pos ⟨rfl, rfl⟩]
  · rw [f2]
    exact Gd_copy g m4
