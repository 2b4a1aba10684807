/-! two new objects -/
theorem Wh_new (c : Nat) : Wh c fp_0 mo_0 := by
  obtain ⟨r, i, o⟩ := G_new c
  have g : Gd c ln_N (mo_0 1) := ⟨_, _, _, _, _, _, r, i, by decide, o⟩
  have m0 : ∀ a, a ≠ 1 → mo_0 a = fun _ => nI 0 := fun a ha => by
    unfold mo_0
    rw [cln_c _ _ ha]
    exact setC_ne ha
  have m00 : ∀ i, mo_0 0 i = nI 0 := fun i => by rw [m0 0 (by decide)]
  refine ⟨g, ⟨0, by decide, rfl, m00 0, fun i => i, fun i hi => ⟨hi, rfl⟩, fun i j _ _ e => e, fun i hi => absurd hi (Nat.not_lt_zero i)⟩, Or.inl ⟨rfl, m00 1, Gd_bo g⟩, 0, by decide, rfl, m00 2, fun i hi => absurd hi (Nat.not_lt_zero i), ?_⟩
  show vp_in (nI 0) 21
  exact vp_in_nI' (by decide)
