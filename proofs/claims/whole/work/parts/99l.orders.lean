/-! one order done, on both sides -/
theorem Gd_mn {c : Nat} {V M : Nat → Nat → Int32} (h : Gd c V (M 1)) : vp_in (M 1 11) 21 ∧ vp_in (M 1 12) 21 ∧ vp_in (M 1 9) 20 ∧ vp_in (M 1 10) 99 ∧ vp_in (M 1 3) 7 := by
  obtain ⟨L, n, p, nS, t, ph, r, i, ht, o⟩ := h
  have n6 := i.1.2.1
  have n1 := i.1.1
  have hl := inv_len i
  obtain ⟨c0, q0, e0, -⟩ := r.2.2.2.2.1 0 (by decide)
  obtain ⟨c1, q1, e1, -⟩ := r.2.2.2.2.1 1 (by decide)
  have m11 : M 1 11 = nI c0 := (R_eq r (c := 27) (i := 0) (by decide)).symm.trans e0
  have m12 : M 1 12 = nI c1 := (R_eq r (c := 28) (i := 0) (by decide)).symm.trans e1
  have m9 : M 1 9 = nI p := r.2.2.2.2.2.1.2.2.2.2.1
  have p8 := r.2.2.2.2.2.1.1
  have m10 : M 1 10 = nI L.length := r.2.2.1.1
  have m3 := R_n3 r i
  exact ⟨by rw [m11]; exact vp_in_nI' (by omega), by rw [m12]; exact vp_in_nI' (by omega), by rw [m9]; exact vp_in_nI' (by omega), by rw [m10]; exact vp_in_nI' (by omega), by rw [m3]; exact vp_in_nI' (by omega)⟩
theorem g_add {c : Nat} {V M : Nat → Nat → Int32} (h : Gd c V (M 1)) (hc : c + 1 < 2 ^ 29) (s w : Int32) : (C2_addWord V s w).1 = (C8_adds M s w).1 ∧ Gd (c + 1) (C2_addWord V s w).2 ((C8_adds M s w).2 1) := by
  obtain ⟨L, n, p, nS, t, ph, r, i, ht, o⟩ := h
  obtain ⟨q1, q2, L', p', ph', R, I, of⟩ := G_add r i s w (by omega) hc
  exact ⟨q1, L', n, p', nS, t, ph', R, I, ht, of o⟩
theorem g_run {c : Nat} {V M : Nat → Nat → Int32} (h : Gd c V (M 1)) (hc : c < 2 ^ 29) (ticks : Int32) : ptOK V ticks ∧ (¬ C8_within ticks (nI 1) (nI 1000) = 0 → (M 1 4) + ticks ≤ nI 1000000 → gtoOK ((M 1 4) + ticks) 5000 M) ∧ (C2_passTicks V ticks).1 = (C8_runs M ticks).1 ∧ Gd c (C2_passTicks V ticks).2 ((C8_runs M ticks).2 1) := by
  obtain ⟨L, n, p, nS, t, ph, r, i, ht, o⟩ := h
  obtain ⟨x1, x2, q1, q2, L', n', p', t', ph', R, I, ht', of⟩ := G_run r i ticks ht hc
  exact ⟨x1, x2, q1, L', n', p', nS, t', ph', R, I, ht', of o⟩
theorem g_del {c : Nat} {V M : Nat → Nat → Int32} (h : Gd c V (M 1)) (l w d : Int32) : (C2_changeDelay V l w d).1 = (C8_setsDelay M l w d).1 ∧ Gd c (C2_changeDelay V l w d).2 ((C8_setsDelay M l w d).2 1) := by
  obtain ⟨L, n, p, nS, t, ph, r, i, ht, o⟩ := h
  obtain ⟨q1, q2, R, I, -⟩ := G_delOp r i l w d
  exact ⟨q1, L, n, p, nS, t, ph, R, I, ht, sm_off sm_del o⟩
/-- the class's side alone: whatever the orders are, the line stays a line -/
theorem ord_Gd {c : Nat} {V : Nat → Nat → Int32} {m : Nat → Int32} (h : Gd c V m) (hc : c + 1 < 2 ^ 29) (T : Nat → Nat → Int32) (i : Nat) : ∃ m', Gd (c + 1) (ordC T i V).2 m' := by
  have h' : Gd c V ((fun _ => m : Nat → Nat → Int32) 1) := h
  have dl : ∀ l w d : Int32, ∃ m', Gd (c + 1) (C2_changeDelay V l w d).2 m' := fun l w d => ⟨_, Gd_up (g_del (c := c) (M := fun _ => m) h' l w d).2 (Nat.le_succ c)⟩
  unfold ordC
  by_cases c1 : T 2 i = nI 46
  · rw [if_pos c1]; exact ⟨_, Gd_up (g_run (c := c) (M := fun _ => m) h' (by omega) _).2.2.2 (Nat.le_succ c)⟩
  · rw [if_neg c1]
    by_cases c2 : T 2 i = nI 97
    · rw [if_pos c2]; exact ⟨_, (g_add (c := c) (M := fun _ => m) h' hc _ _).2⟩
    · rw [if_neg c2]
      by_cases c3 : T 2 i = nI 98
      · rw [if_pos c3]; exact ⟨_, (g_add (c := c) (M := fun _ => m) h' hc _ _).2⟩
      · rw [if_neg c3]
        by_cases c4 : T 2 i = nI 107
        · rw [if_pos c4]; exact dl _ _ _
        · rw [if_neg c4]
          by_cases c5 : T 2 i = nI 114
          · rw [if_pos c5]; exact dl _ _ _
          · rw [if_neg c5]; exact dl _ _ _
theorem po_all (T : Nat → Nat → Int32) : ∀ (q i c : Nat) (V : Nat → Nat → Int32) (m : Nat → Int32), Gd c V m → c + q < 2 ^ 29 → poOK T q i V := by
  intro q
  induction q with
  | zero => intro i c V m h _; exact ⟨Gd_wf h, Gd_bo h⟩
  | succ q ih =>
    intro i c V m h hc
    have h' : Gd c V ((fun _ => m : Nat → Nat → Int32) 1) := h
    obtain ⟨m', h2⟩ := ord_Gd h (by omega) T i
    exact ⟨Gd_wf h, Gd_bo h, fun _ => ⟨(g_run (c := c) (M := fun _ => m) h' (by omega) _).1, ih (i + 1) (c + 1) _ m' h2 (by omega)⟩⟩
/-- the same order on both sides -/
theorem ord_do {c : Nat} {V M T : Nat → Nat → Int32} {i a b x : Nat} (h : Gd c V (M 1)) (hc : c + 1 < 2 ^ 29) (ha : a = 46 ∨ a = 97 ∨ a = 98 ∨ a = 100 ∨ a = 107 ∨ a = 114) (t2 : T 2 i = nI a) (t3 : T 3 i = nI b) (t4 : T 4 i = nI x) (m4 : M 0 4 = nI a) (m5 : 100 ≤ a → M 0 5 = nI b) (m6 : M 0 6 = nI x) :
    doOK M ∧ (ordC T i V).1 = (C8_doesOrder M).1 ∧ Gd (c + 1) (ordC T i V).2 ((C8_doesOrder M).2 1) ∧ ∀ j, j ≠ 1 → (C8_doesOrder M).2 j = M j := by
  obtain ⟨v11, v12, v9, v10, v3⟩ := Gd_mn h
  obtain ⟨r1, r2, r3, r4⟩ := g_run h (by omega) (nI x)
  have hd : doOK M := ⟨v11, v12, v9, v10, by rw [m6]; exact r2, v3⟩
  have dl : ∀ w : Int32, 100 ≤ a → (C2_changeDelay V (nI b) w (nI x)).1 = (C8_setsDelay M (M 0 5) w (nI x)).1 ∧ Gd (c + 1) (C2_changeDelay V (nI b) w (nI x)).2 ((C8_setsDelay M (M 0 5) w (nI x)).2 1) ∧ ∀ j, j ≠ 1 → (C8_setsDelay M (M 0 5) w (nI x)).2 j = M j := fun w ha => by
    rw [m5 ha]
    obtain ⟨q1, q2⟩ := g_del h (nI b) w (nI x)
    exact ⟨q1, Gd_up q2 (by omega), fun j hj => fr_setsDelay hj⟩
  have ne : ∀ u v : Nat, u < 2 ^ 31 → v < 2 ^ 31 → u ≠ v → ¬ nI u = nI v := fun u v hu hv q z => q ((nI_eq hu hv).mp z)
  refine ⟨hd, ?_⟩
  unfold ordC C8_doesOrder
  try dsimp only
  rw [t2, t3, t4, m4, m6]
  rcases ha with rfl | rfl | rfl | rfl | rfl | rfl
  · rw [if_pos rfl, if_pos rfl]
    exact ⟨r3, Gd_up r4 (by omega), fun j hj => fr_runs hj⟩
  · rw [if_neg (ne 97 46 (by decide) (by decide) (by decide)), if_neg (ne 97 46 (by decide) (by decide) (by decide)), if_pos rfl, if_pos rfl]
    obtain ⟨q1, q2⟩ := g_add h hc (nI 0) (nI x)
    have e : nI 97 - nI 97 = nI 0 := by decide
    rw [e]
    exact ⟨q1, q2, fun j hj => fr_adds hj⟩
  · rw [if_neg (ne 98 46 (by decide) (by decide) (by decide)), if_neg (ne 98 46 (by decide) (by decide) (by decide)), if_neg (ne 98 97 (by decide) (by decide) (by decide)), if_neg (ne 98 97 (by decide) (by decide) (by decide)), if_pos rfl, if_pos rfl]
    obtain ⟨q1, q2⟩ := g_add h hc (nI 1) (nI x)
    have e : nI 98 - nI 97 = nI 1 := by decide
    rw [e]
    exact ⟨q1, q2, fun j hj => fr_adds hj⟩
  · rw [if_neg (ne 100 46 (by decide) (by decide) (by decide)), if_neg (ne 100 46 (by decide) (by decide) (by decide)), if_neg (ne 100 97 (by decide) (by decide) (by decide)), if_neg (ne 100 97 (by decide) (by decide) (by decide)), if_neg (ne 100 98 (by decide) (by decide) (by decide)), if_neg (ne 100 98 (by decide) (by decide) (by decide)), if_neg (ne 100 107 (by decide) (by decide) (by decide)), if_neg (ne 100 114 (by decide) (by decide) (by decide)), if_neg (ne 100 114 (by decide) (by decide) (by decide)), if_neg (ne 100 107 (by decide) (by decide) (by decide))]
    exact dl (nI 2) (by decide)
  · rw [if_neg (ne 107 46 (by decide) (by decide) (by decide)), if_neg (ne 107 46 (by decide) (by decide) (by decide)), if_neg (ne 107 97 (by decide) (by decide) (by decide)), if_neg (ne 107 97 (by decide) (by decide) (by decide)), if_neg (ne 107 98 (by decide) (by decide) (by decide)), if_neg (ne 107 98 (by decide) (by decide) (by decide)), if_pos rfl, if_neg (ne 107 114 (by decide) (by decide) (by decide)), if_pos rfl]
    exact dl (nI 1) (by decide)
  · rw [if_neg (ne 114 46 (by decide) (by decide) (by decide)), if_neg (ne 114 46 (by decide) (by decide) (by decide)), if_neg (ne 114 97 (by decide) (by decide) (by decide)), if_neg (ne 114 97 (by decide) (by decide) (by decide)), if_neg (ne 114 98 (by decide) (by decide) (by decide)), if_neg (ne 114 98 (by decide) (by decide) (by decide)), if_neg (ne 114 107 (by decide) (by decide) (by decide)), if_pos rfl, if_pos rfl]
    exact dl (nI 0) (by decide)
theorem L7_step (q i : Nat) (F : Nat → Nat → Nat → Int32) : L7_perform (q + 1) i F = if tN (F 7 0 1) ≤ i then C7_accept F (nI (tN (F 7 0 1))) else if 0 ≤ (ordC (F 7) i (F 1)).1 then L7_perform q (i + 1) (setF F 1 (ordC (F 7) i (F 1)).2) else if (ordC (F 7) i (F 1)).1 = (-5) then L7_perform q (i + 1) (setF F 1 (ordC (F 7) i (F 1)).2) else ((ordC (F 7) i (F 1)).1, setF F 1 (ordC (F 7) i (F 1)).2) := by
  unfold ordC
  show (if tN (F 7 0 1) ≤ i then _ else _) = _
  by_cases c0 : tN (F 7 0 1) ≤ i
  · rw [if_pos c0, if_pos c0] <;> rfl
  · rw [if_neg c0, if_neg c0]
    by_cases c1 : F 7 2 i = nI 46
    · rw [if_pos c1, if_pos c1] <;> rfl
    · rw [if_neg c1, if_neg c1]
      by_cases c2 : F 7 2 i = nI 97
      · rw [if_pos c2, if_pos c2] <;> rfl
      · rw [if_neg c2, if_neg c2]
        by_cases c3 : F 7 2 i = nI 98
        · rw [if_pos c3, if_pos c3] <;> rfl
        · rw [if_neg c3, if_neg c3]
          by_cases c4 : F 7 2 i = nI 107
          · rw [if_pos c4, if_pos c4] <;> rfl
          · rw [if_neg c4, if_neg c4]
            by_cases c5 : F 7 2 i = nI 114
            · rw [if_pos c5, if_pos c5] <;> rfl
            · rw [if_neg c5, if_neg c5] <;> rfl
theorem P8_step (q many : Nat) (M : Nat → Nat → Int32) : L8_perform (q + 1) many M = if M 0 2 ≤ M 0 3 then (nI many, C8_push M) else if (C8_readsOrder M).1 = 0 then ((-2), C8_takeBack (C8_readsOrder M).2) else if 0 ≤ (C8_doesOrder (C8_readsOrder M).2).1 then L8_perform q (many + 1) (up1 (C8_doesOrder (C8_readsOrder M).2).2 0 3 ((C8_doesOrder (C8_readsOrder M).2).2 0 3 + nI 1)) else if (C8_doesOrder (C8_readsOrder M).2).1 = (-5) then L8_perform q (many + 1) (up1 (C8_doesOrder (C8_readsOrder M).2).2 0 3 ((C8_doesOrder (C8_readsOrder M).2).2 0 3 + nI 1)) else ((C8_doesOrder (C8_readsOrder M).2).1, C8_takeBack (C8_doesOrder (C8_readsOrder M).2).2) := rfl
theorem mp_step (q : Nat) (M : Nat → Nat → Int32) : mpOK (q + 1) M = (vp_in (M 0 0) 5 ∧ (¬ M 0 2 ≤ M 0 3 → (∃ n : Nat, n ≤ 800000 ∧ mtOK M n) ∧ (¬ (C8_readsOrder M).1 = 0 → doOK (C8_readsOrder M).2 ∧ mpOK q (up1 (C8_doesOrder (C8_readsOrder M).2).2 0 3 ((C8_doesOrder (C8_readsOrder M).2).2 0 3 + nI 1))))) := rfl
