/-- T' is T but for its place -/
def Tz (T T' : Nat → Nat → Int32) : Prop := (∀ c, c ≠ 0 → T' c = T c) ∧ ∀ j, j ≠ 2 → T' 0 j = T 0 j
theorem Tz_r (T : Nat → Nat → Int32) : Tz T T := ⟨fun _ _ => rfl, fun _ _ => rfl⟩
theorem Tz_up {T T' : Nat → Nat → Int32} {x : Int32} (h : Tz T T') : Tz T (up1 T' 0 2 x) := ⟨fun c hc => (setC_ne hc).trans (h.1 c hc), fun j hj => by
  rw [up1_at, if_neg (fun z => hj z.2)]
  exact h.2 j hj⟩
theorem Tz_num {T T' : Nat → Nat → Int32} {g : Int32} (h : Tz T T') : Tz T (C6_readNumber T' g).2 := by
  obtain ⟨a, b⟩ := num_fr (g := g) 60 0 (nI 0) T'
  exact ⟨fun c hc => (a c hc).trans (h.1 c hc), fun j hj => (b j hj).trans (h.2 j hj)⟩
/-- what an order's reading gives: a fault at the same place, or the same order -/
def RdR (T M : Nat → Nat → Int32) (len pos n : Nat) (a : Int32) (C R : Int32 × (Nat → Nat → Int32)) : Prop :=
  Mz M R.2 ∧ R.2 0 4 = M 0 4 ∧ ((C.1 = nI 0 ∧ R.1 = nI 0 ∧ Tz T C.2 ∧ ∃ pos', TR C.2 R.2 len pos') ∨ ∃ b x pos' T', b ≤ 6 ∧ x ≤ 20 ∧ pos < pos' ∧ Tz T T' ∧ C = (nI 1, stT T' n a (nI b) (nI x)) ∧ R.1 = nI 1 ∧ R.2 0 5 = nI b ∧ R.2 0 6 = nI x ∧ TR C.2 R.2 len pos')
theorem del_both {T M : Nat → Nat → Int32} {len pos n : Nat} (h : TR T M len pos) (e : T 0 1 = nI n) (hn : n < 20) (a : Int32) : RdR T M len pos n a (C6_readDelay T a) (C8_readsDelay M) := by
  have w5 : ∀ x : Int32, TR T (up1 M 0 5 x) len pos := fun x => TR_fr h rfl rfl rfl (by rw [up1_at, if_neg (by decide)]) (by rw [up1_at, if_neg (by decide)]) (setC_ne (by decide))
  have z5 : ∀ x : Int32, up1 M 0 5 x 0 5 = x := fun x => by rw [up1_at, if_pos ⟨rfl, rfl⟩]
  unfold C6_readDelay C8_readsDelay
  try dsimp only
  rw [z5]
  rcases d6_both h with ⟨d, d6, hp, a1, a2⟩ | ⟨a1, a2⟩
  · rw [a1, a2, if_neg (wi_in (Nat.zero_le d) d6 (by decide))]
    try dsimp only
    rw [if_neg (nI_nem1 (by omega))]
    have h2 := TR_next (w5 (nI d)) hp
    obtain ⟨M2, hM2⟩ : ∃ z, z = up1 (up1 M 0 5 (nI d)) 0 3 ((up1 M 0 5 (nI d)) 0 3 + nI 1) := ⟨_, rfl⟩
    obtain ⟨T2, hT2⟩ : ∃ z, z = up1 T 0 2 (T 0 2 + nI 1) := ⟨_, rfl⟩
    have mz2 : Mz M M2 := by rw [hM2]; exact Mz_up (Mz_up (Mz_r M) (by decide)) (by decide)
    have m4 : M2 0 4 = M 0 4 := by rw [hM2, up1_at, if_neg (by decide), up1_at, if_neg (by decide)]
    have m5 : M2 0 5 = nI d := by rw [hM2, up1_at, if_neg (by decide)]; exact z5 _
    have tz2 : Tz T T2 := by rw [hT2]; exact Tz_up (Tz_r T)
    rw [← hM2, ← hT2] at h2
    rw [← hM2, ← hT2]
    rcases sign_both (s := 61) h2 (by decide) (by decide) with ⟨hp2, b1, b2⟩ | ⟨b1, b2⟩
    · rw [b1, if_pos b2]
      try dsimp only
      rw [if_neg (show ¬ nI 1 = 0 by decide)]
      have h3 := TR_next h2 hp2
      obtain ⟨M3, hM3⟩ : ∃ z, z = up1 M2 0 3 (M2 0 3 + nI 1) := ⟨_, rfl⟩
      obtain ⟨T3, hT3⟩ : ∃ z, z = up1 T2 0 2 (T2 0 2 + nI 1) := ⟨_, rfl⟩
      have mz3 : Mz M M3 := by rw [hM3]; exact Mz_up mz2 (by decide)
      have m34 : M3 0 4 = M 0 4 := by rw [hM3, up1_at, if_neg (by decide)]; exact m4
      have m35 : M3 0 5 = nI d := by rw [hM3, up1_at, if_neg (by decide)]; exact m5
      have tz3 : Tz T T3 := by rw [hT3]; exact Tz_up tz2
      rw [← hM3, ← hT3] at h3
      rw [← hM3, ← hT3]
      obtain ⟨k1, k2, k3⟩ := Mz_num (g := nI 20) mz3
      have tz4 := Tz_num (g := nI 20) tz3
      refine ⟨k1, k2.trans m34, ?_⟩
      rcases num_both (g := 20) h3 (by decide) (by decide) with ⟨c1, c2, c3⟩ | ⟨x, pos', x1, x2, x3, c1, c2, c3, c4⟩
      · left
        rw [c1, store_no (show nI 0 < nI 1 by decide)]
        exact ⟨rfl, c2, tz4, _, c3⟩
      · right
        refine ⟨d, x, pos', (C6_readNumber T3 (nI 20)).2, d6, x2, by omega, tz4, ?_, c2, k3.trans m35, c3, ?_⟩
        · rw [c1, store_ok ((tz4.2 1 (by decide)).trans e) hn (show ¬ nI x < nI 1 by rw [nI_ltI (by omega) (by decide)]; omega)]
        · rw [c1, store_ok ((tz4.2 1 (by decide)).trans e) hn (show ¬ nI x < nI 1 by rw [nI_ltI (by omega) (by decide)]; omega)]
          exact TR_st c4
    · rw [b1, if_neg b2]
      try dsimp only
      rw [if_pos (show nI 0 = 0 from rfl)]
      exact ⟨mz2, m4, Or.inl ⟨rfl, rfl, tz2, _, h2⟩⟩
  · rw [a1, if_pos a2]
    try dsimp only
    rw [if_pos rfl]
    exact ⟨Mz_up (Mz_r M) (by decide), rfl, Or.inl ⟨rfl, rfl, Tz_r T, _, w5 _⟩⟩
