/-! numbers in texts on both sides -/
theorem neg48 : ∀ v, v < 48 → nI v - nI 48 < nI 0 := by decide
theorem wi_out {v : Int32} {a b : Nat} (ha : a < 2 ^ 31) (hb : b < 2 ^ 31) (h : v < nI a ∨ nI b < v) : C8_within v (nI a) (nI b) = 0 := by
  unfold C8_within
  by_cases c : v < nI a
  · rw [if_pos c]; rfl
  · rw [if_neg c, if_pos (h.resolve_left c)]; rfl
theorem wi_in {v a b : Nat} (h1 : a ≤ v) (h2 : v ≤ b) (hb : b < 2 ^ 31) : ¬ C8_within (nI v) (nI a) (nI b) = 0 := by
  unfold C8_within
  rw [if_neg (show ¬ nI v < nI a by rw [nI_ltI (by omega) (by omega)]; omega), if_neg (show ¬ nI b < nI v by rw [nI_ltI (by omega) (by omega)]; omega)]
  decide
/-- a decimal digit stands here, or none -/
theorem dec_both {T M : Nat → Nat → Int32} {len pos : Nat} (h : TR T M len pos) : (∃ d, d ≤ 9 ∧ pos < len ∧ C6_digitOf T (C6_current T) = nI d ∧ C8_code M - nI 48 = nI d) ∨ ((C6_digitOf T (C6_current T) = (-1) ∨ (¬ C6_digitOf T (C6_current T) = (-1) ∧ ¬ C6_digitOf T (C6_current T) = 0 ∧ nI 9 < C6_digitOf T (C6_current T))) ∧ (C8_code M - nI 48 < nI 0 ∨ nI 9 < C8_code M - nI 48)) := by
  rcases TR_cur h with ⟨hp, v, v1, v2, v3⟩ | ⟨hp, v2, v3⟩
  · rw [v2, v3, dg_c v1]
    by_cases c : 48 ≤ v ∧ v ≤ 57
    · left
      refine ⟨v - 48, by omega, hp, ?_, pk_sub (by omega)⟩
      unfold dgN
      rw [if_pos c]
    · right
      refine ⟨?_, ?_⟩
      · unfold dgN
        rw [if_neg c]
        by_cases c2 : 97 ≤ v ∧ v ≤ 102
        · rw [if_pos c2]
          right
          refine ⟨nI_nem1 (by omega), ?_, (nI_ltI (by decide) (by omega)).mpr (by omega)⟩
          show ¬ nI (v - 87) = 0
          rw [nI_eq0 (by omega)]; omega
        · rw [if_neg c2]
          exact Or.inl rfl
      · by_cases c3 : v < 48
        · exact Or.inl (neg48 v c3)
        · right
          rw [pk_sub (by omega)]
          exact (nI_ltI (by decide) (by omega)).mpr (by omega)
  · rw [v2, v3]
    exact ⟨Or.inl rfl, Or.inl (neg48 0 (by decide))⟩ |> Or.inr
