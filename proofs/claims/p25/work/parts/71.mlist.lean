/-! the reference's list of changes -/
/-- one change as the reference writes it: its time, link, wire, value -/
def chA (m : Nat → Int32) (j : Nat) (x : Nat × Nat) : Prop := m (319 + 4 * j) = nI x.1 ∧ m (319 + 4 * j + 1) = nI (x.2 / 96) ∧ m (319 + 4 * j + 2) = nI (x.2 / 32 % 3) ∧ m (319 + 4 * j + 3) = nI (x.2 % 32)
def listM (m : Nat → Int32) (L : List (Nat × Nat)) : Prop := m 10 = nI L.length ∧ ∀ j, j < L.length → chA m j (L.getD j (0, 0))
theorem listM_of {m m' : Nat → Int32} {L : List (Nat × Nat)} (h : listM m L) (h10 : m' 10 = m 10) (hl : ∀ j, 319 ≤ j → m' j = m j) : listM m' L :=
  ⟨by rw [h10]; exact h.1, fun j hj => by
    obtain ⟨a, b, c, d⟩ := h.2 j hj
    exact ⟨by rw [hl _ (by omega)]; exact a, by rw [hl _ (by omega)]; exact b, by rw [hl _ (by omega)]; exact c, by rw [hl _ (by omega)]; exact d⟩⟩
theorem sig_dec {k w v : Nat} (hw : w < 3) (hv : v < 32) : (((k * 3 + w) * 32) + v) / 96 = k ∧ (((k * 3 + w) * 32) + v) / 32 % 3 = w ∧ (((k * 3 + w) * 32) + v) % 32 = v := by
  refine ⟨by omega, by omega, by omega⟩
theorem list_make {M : Nat → Nat → Int32} {L : List (Nat × Nat)} (h : listM (M 1) L) (hl : L.length < 100) {t k w v : Nat} {x : Int32} (hw : w < 3) (hv : v < 32) (ht : (M 1 4 + M 1 ((13 + (3 * k)) + w)) + x = nI t) : listM (C8_make M k w (nI v) x 1) (L ++ [(t, ((k * 3 + w) * 32) + v)]) ∧ (∀ j, j ≠ 10 → j < 319 → C8_make M k w (nI v) x 1 j = M 1 j) := by
  have e10 : tN (M 1 10) = L.length := by rw [h.1]; exact tN_nI (by omega)
  have ev : ∀ j, C8_make M k w (nI v) x 1 j = if j = 10 then nI (L.length + 1) else if j = 319 + 4 * L.length + 3 then nI v else if j = 319 + 4 * L.length + 2 then nI w else if j = 319 + 4 * L.length + 1 then nI k else if j = 319 + 4 * L.length then nI t else M 1 j := by
    intro j
    unfold C8_make
    try dsimp only
    rw [e10, ht]
    have u : ∀ (N : Nat → Nat → Int32) (i : Nat) (y : Int32) (j : Nat), up1 N 1 i y 1 j = if j = i then y else N 1 j := fun N i y j => by show setC N 1 _ 1 j = _; rw [setC_eq]; rfl
    rw [u, u, u, u, u, u, u, u, u]
    by_cases c : j = 10
    · rw [if_pos c, if_pos c]
      rw [if_neg (by omega), if_neg (by omega), if_neg (by omega), if_neg (by omega), h.1, nI_add]
    · rw [if_neg c, if_neg c]
      by_cases c3 : j = 319 + 4 * L.length + 3
      · rw [if_pos c3, if_pos c3]
      · rw [if_neg c3, if_neg c3]
        by_cases c2 : j = 319 + 4 * L.length + 2
        · rw [if_pos c2, if_pos c2]
        · rw [if_neg c2, if_neg c2]
          by_cases c1 : j = 319 + 4 * L.length + 1
          · rw [if_pos c1, if_pos c1]
          · rw [if_neg c1, if_neg c1]
            rfl
  refine ⟨⟨?_, ?_⟩, fun j h1 h2 => by rw [ev, if_neg h1, if_neg (by omega), if_neg (by omega), if_neg (by omega), if_neg (by omega)]⟩
  · rw [ev, if_pos rfl]; simp
  · intro j hj
    have hj2 : j < L.length + 1 := by simpa using hj
    obtain ⟨d1, d2, d3⟩ := sig_dec (k := k) hw hv
    unfold chA
    rw [ev, ev, ev, ev]
    by_cases c : j = L.length
    · subst c
      rw [show (L ++ [(t, ((k * 3 + w) * 32) + v)]).getD L.length (0, 0) = (t, ((k * 3 + w) * 32) + v) by simp [List.getD_eq_getElem?_getD]]
      dsimp only
      rw [d1, d2, d3]
      refine ⟨?_, ?_, ?_, ?_⟩
      · rw [if_neg (by omega), if_neg (by omega), if_neg (by omega), if_neg (by omega), if_pos rfl]
      · rw [if_neg (by omega), if_neg (by omega), if_neg (by omega), if_pos rfl]
      · rw [if_neg (by omega), if_neg (by omega), if_pos rfl]
      · rw [if_neg (by omega), if_pos rfl]
    · have hj3 : j < L.length := by omega
      rw [show (L ++ [(t, ((k * 3 + w) * 32) + v)]).getD j (0, 0) = L.getD j (0, 0) by simp [List.getD_eq_getElem?_getD, List.getElem?_append_left hj3]]
      obtain ⟨a, b, c', d⟩ := h.2 j hj3
      refine ⟨?_, ?_, ?_, ?_⟩
      · rw [if_neg (by omega), if_neg (by omega), if_neg (by omega), if_neg (by omega), if_neg (by omega)]; exact a
      · rw [if_neg (by omega), if_neg (by omega), if_neg (by omega), if_neg (by omega), if_neg (by omega)]; exact b
      · rw [if_neg (by omega), if_neg (by omega), if_neg (by omega), if_neg (by omega), if_neg (by omega)]; exact c'
      · rw [if_neg (by omega), if_neg (by omega), if_neg (by omega), if_neg (by omega), if_neg (by omega)]; exact d
/-- the first of the earliest ones -/
def isF (L : List (Nat × Nat)) (j : Nat) : Prop := j < L.length ∧ (∀ i, i < L.length → (L.getD j (0, 0)).1 ≤ (L.getD i (0, 0)).1) ∧ ∀ i, i < j → (L.getD j (0, 0)).1 < (L.getD i (0, 0)).1
theorem next_L8 {M : Nat → Nat → Int32} {L : List (Nat × Nat)} (h : listM (M 1) L) (hl : L.length < 100) (hb : ∀ x ∈ L, x.1 < 2 ^ 31) : ∀ (q k j : Nat), k + q = 100 → j < k → k ≤ L.length → (∀ i, i < k → (L.getD j (0, 0)).1 ≤ (L.getD i (0, 0)).1) → (∀ i, i < j → (L.getD j (0, 0)).1 < (L.getD i (0, 0)).1) → ∃ r, L8_nextChange M q k j = nI r ∧ isF L r := by
  have e10 : tN (M 1 10) = L.length := by rw [h.1]; exact tN_nI (by omega)
  have hw : ∀ j, j < L.length → C8_whenOf M j = nI (L.getD j (0, 0)).1 := fun j hj => (h.2 j hj).1
  intro q
  induction q with
  | zero => intro k j hk hj hkl; omega
  | succ q ih =>
    intro k j hk hj hkl h1 h2
    unfold L8_nextChange
    rw [e10]
    by_cases c : L.length ≤ k
    · rw [if_pos c]
      exact ⟨j, rfl, by omega, fun i hi => h1 i (by omega), h2⟩
    · rw [if_neg c, hw j (by omega), hw k (by omega)]
      have b1 := hb _ (getD_mem (show j < L.length by omega))
      have b2 := hb _ (getD_mem (show k < L.length by omega))
      by_cases c2 : (L.getD j (0, 0)).1 ≤ (L.getD k (0, 0)).1
      · rw [if_pos ((nI_leI b1 b2).mpr c2)]
        exact ih (k + 1) j (by omega) (by omega) (by omega) (fun i hi => by
          rcases Nat.lt_or_ge i k with z | z
          · exact h1 i z
          · rw [show i = k by omega]; exact c2) h2
      · rw [if_neg (fun z => c2 ((nI_leI b1 b2).mp z))]
        exact ih (k + 1) k (by omega) (by omega) (by omega) (fun i hi => by
          rcases Nat.lt_or_ge i k with z | z
          · have := h1 i z; omega
          · rw [show i = k by omega]; exact Nat.le_refl _) (fun i hi => by have := h1 i hi; omega)
theorem next_M {M : Nat → Nat → Int32} {L : List (Nat × Nat)} (h : listM (M 1) L) (hl : L.length < 100) (hb : ∀ x ∈ L, x.1 < 2 ^ 31) (h0 : 0 < L.length) : ∃ r, C8_nextChange M = nI r ∧ isF L r := by
  have e10 : tN (M 1 10) = L.length := by rw [h.1]; exact tN_nI (by omega)
  unfold C8_nextChange
  rw [e10, if_neg (by omega)]
  exact next_L8 h hl hb 99 1 0 rfl (by decide) h0 (fun i hi => by rw [show i = 0 by omega]; exact Nat.le_refl _) (fun i hi => by omega)
theorem next_0 {M : Nat → Nat → Int32} (h : listM (M 1) []) : C8_nextChange M = (-5) := by
  have e10 : tN (M 1 10) = 0 := by rw [h.1]; exact tN_nI (by decide)
  unfold C8_nextChange
  rw [e10]; exact if_pos (Nat.le_refl 0)
theorem nx_ne {r : Nat} (h : r < 2 ^ 31) : ¬ nI r = (-5) := fun e => by
  have h1 := nI_pos h
  rw [e] at h1
  exact h1 (by decide)
/-- the list, cut at its first earliest change -/
theorem isF_cut {L : List (Nat × Nat)} {r : Nat} (h : isF L r) : ∃ (A B : List (Nat × Nat)), L = A ++ L.getD r (0, 0) :: B ∧ A.length = r ∧ (∀ y ∈ A, (L.getD r (0, 0)).1 < y.1) ∧ ∀ y ∈ B, (L.getD r (0, 0)).1 ≤ y.1 := by
  obtain ⟨h1, h2, h3⟩ := h
  have eg : L.getD r (0, 0) = L[r] := by rw [List.getD_eq_getElem?_getD, List.getElem?_eq_getElem h1]; rfl
  refine ⟨L.take r, L.drop (r + 1), ?_, by rw [List.length_take]; omega, ?_, ?_⟩
  · rw [eg, List.getElem_cons_drop, List.take_append_drop]
  · intro y hy
    obtain ⟨i, hi, e⟩ := List.getElem_of_mem hy
    have hi2 : i < r := by rw [List.length_take] at hi; omega
    have := h3 i hi2
    rw [show L.getD i (0, 0) = y by rw [← e, List.getElem_take, List.getD_eq_getElem?_getD, List.getElem?_eq_getElem (by omega)]; rfl] at this
    exact this
  · intro y hy
    obtain ⟨i, hi, e⟩ := List.getElem_of_mem hy
    have hi2 : r + 1 + i < L.length := by rw [List.length_drop] at hi; omega
    have := h2 (r + 1 + i) hi2
    rw [show L.getD (r + 1 + i) (0, 0) = y by rw [← e, List.getElem_drop, List.getD_eq_getElem?_getD, List.getElem?_eq_getElem hi2]; rfl] at this
    exact this
/-- a change that arrives leaves the reference's list -/
theorem list_erase {m m' : Nat → Int32} {A B : List (Nat × Nat)} {x : Nat × Nat} (h : listM m (A ++ x :: B)) (h10 : m' 10 = nI (A.length + B.length)) (hs : ∀ j, 319 ≤ j → j < 319 + 4 * (A.length + B.length) → m' j = if 319 + 4 * A.length ≤ j then m (j + 4) else m j) : listM m' (A ++ B) := by
  refine ⟨by rw [h10, List.length_append], fun j hj => ?_⟩
  rw [List.length_append] at hj
  have el : (A ++ x :: B).length = A.length + B.length + 1 := by simp; omega
  unfold chA
  rw [hs _ (by omega) (by omega), hs _ (by omega) (by omega), hs _ (by omega) (by omega), hs _ (by omega) (by omega)]
  by_cases c : j < A.length
  · rw [if_neg (by omega), if_neg (by omega), if_neg (by omega), if_neg (by omega)]
    have := h.2 j (by omega)
    rw [show (A ++ x :: B).getD j (0, 0) = (A ++ B).getD j (0, 0) by rw [List.getD_eq_getElem?_getD, List.getD_eq_getElem?_getD, List.getElem?_append_left c, List.getElem?_append_left c]] at this
    exact this
  · rw [if_pos (by omega), if_pos (by omega), if_pos (by omega), if_pos (by omega)]
    have := h.2 (j + 1) (by omega)
    rw [show (A ++ x :: B).getD (j + 1) (0, 0) = (A ++ B).getD j (0, 0) by
      rw [List.getD_eq_getElem?_getD, List.getD_eq_getElem?_getD, List.getElem?_append_right (by omega), List.getElem?_append_right (by omega), show j + 1 - A.length = (j - A.length) + 1 by omega, List.getElem?_cons_succ]] at this
    obtain ⟨a, b, c', d⟩ := this
    refine ⟨?_, ?_, ?_, ?_⟩
    · rw [show 319 + 4 * j + 4 = 319 + 4 * (j + 1) by omega]; exact a
    · rw [show 319 + 4 * j + 1 + 4 = 319 + 4 * (j + 1) + 1 by omega]; exact b
    · rw [show 319 + 4 * j + 2 + 4 = 319 + 4 * (j + 1) + 2 by omega]; exact c'
    · rw [show 319 + 4 * j + 3 + 4 = 319 + 4 * (j + 1) + 3 by omega]; exact d
