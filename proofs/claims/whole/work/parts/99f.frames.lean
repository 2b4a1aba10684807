/-! what the reading of numbers leaves alone -/
theorem num_fr {g : Int32} : ∀ (q i : Nat) (n : Int32) (T : Nat → Nat → Int32), (∀ c, c ≠ 0 → (L6_readNumber g q i n T).2 c = T c) ∧ ∀ j, j ≠ 2 → (L6_readNumber g q i n T).2 0 j = T 0 j := by
  intro q
  induction q with
  | zero => intro i n T; exact ⟨fun _ _ => rfl, fun _ _ => rfl⟩
  | succ q ih =>
    intro i n T
    have step : ∀ n', (∀ c, c ≠ 0 → (L6_readNumber g q (i + 1) n' (up1 T 0 2 (T 0 2 + nI 1))).2 c = T c) ∧ ∀ j, j ≠ 2 → (L6_readNumber g q (i + 1) n' (up1 T 0 2 (T 0 2 + nI 1))).2 0 j = T 0 j := fun n' => by
      obtain ⟨a, b⟩ := ih (i + 1) n' (up1 T 0 2 (T 0 2 + nI 1))
      exact ⟨fun c hc => (a c hc).trans (setC_ne hc), fun j hj => (b j hj).trans (by rw [up1_at, if_neg (fun z => hj z.2)])⟩
    have stop : ∀ n' : Int32, (∀ c, c ≠ 0 → ((n', T) : Int32 × (Nat → Nat → Int32)).2 c = T c) ∧ ∀ j, j ≠ 2 → ((n', T) : Int32 × (Nat → Nat → Int32)).2 0 j = T 0 j := fun n' => ⟨fun _ _ => rfl, fun _ _ => rfl⟩
    unfold L6_readNumber
    try dsimp only
    by_cases c1 : n = 0
    · rw [if_pos c1]
      by_cases c2 : C6_digitOf T (C6_current T) = 0
      · rw [if_pos c2]
        by_cases c3 : C6_digitOf T (C6_current T) = (-1)
        · rw [if_pos c3]; exact stop n
        · rw [if_neg c3]
          by_cases c4 : nI 9 < C6_digitOf T (C6_current T)
          · rw [if_pos c4]; exact stop n
          · rw [if_neg c4]; exact stop n
      · rw [if_neg c2]
        by_cases c3 : C6_digitOf T (C6_current T) = (-1)
        · rw [if_pos c3]; exact stop n
        · rw [if_neg c3]
          by_cases c4 : nI 9 < C6_digitOf T (C6_current T)
          · rw [if_pos c4]; exact stop n
          · rw [if_neg c4]
            by_cases c5 : (n * (nI 10)) + (C6_digitOf T (C6_current T)) ≤ g
            · rw [if_pos c5]; exact step _
            · rw [if_neg c5]; exact stop n
    · rw [if_neg c1]
      by_cases c3 : C6_digitOf T (C6_current T) = (-1)
      · rw [if_pos c3]; exact stop n
      · rw [if_neg c3]
        by_cases c4 : nI 9 < C6_digitOf T (C6_current T)
        · rw [if_pos c4]; exact stop n
        · rw [if_neg c4]
          by_cases c5 : (n * (nI 10)) + (C6_digitOf T (C6_current T)) ≤ g
          · rw [if_pos c5]; exact step _
          · rw [if_neg c5]; exact stop n
/-- M' is M but for single numbers of component 0, from place 3 on -/
def Mz (M M' : Nat → Nat → Int32) : Prop := (∀ c, c ≠ 0 → M' c = M c) ∧ ∀ j, j < 3 → M' 0 j = M 0 j
theorem Mz_r (M : Nat → Nat → Int32) : Mz M M := ⟨fun _ _ => rfl, fun _ _ => rfl⟩
theorem Mz_up {M M' : Nat → Nat → Int32} {j : Nat} {x : Int32} (h : Mz M M') (hj : 3 ≤ j) : Mz M (up1 M' 0 j x) := ⟨fun c hc => (setC_ne hc).trans (h.1 c hc), fun i hi => by
  rw [up1_at, if_neg (by omega)]
  exact h.2 i hi⟩
theorem Mz_num {M M' : Nat → Nat → Int32} {g : Int32} (h : Mz M M') : Mz M (C8_readsNumber M' g).2 ∧ (C8_readsNumber M' g).2 0 4 = M' 0 4 ∧ (C8_readsNumber M' g).2 0 5 = M' 0 5 := by
  unfold C8_readsNumber
  try dsimp only
  split
  · exact ⟨Mz_up h (by decide), rfl, rfl⟩
  · split
    · exact ⟨Mz_up (Mz_up h (by decide)) (by decide), rfl, rfl⟩
    · split
      · exact ⟨Mz_up (Mz_up h (by decide)) (by decide), rfl, rfl⟩
      · exact ⟨Mz_up (Mz_up (Mz_up (Mz_up h (by decide)) (by decide)) (by decide)) (by decide), rfl, rfl⟩
