/-! an order in a text, on both sides -/
theorem hex_both {T M : Nat → Nat → Int32} {len pos : Nat} (h : TR T M len pos) : (∃ d, d < 16 ∧ pos < len ∧ C6_readDigit T (nI 15) = (nI d, up1 T 0 2 (T 0 2 + nI 1)) ∧ C8_hex (C8_code M) = nI d) ∨ (C6_readDigit T (nI 15) = ((-1), T) ∧ C8_hex (C8_code M) = (-5)) := by
  unfold C6_readDigit
  rcases TR_cur h with ⟨hp, v, v1, v2, v3⟩ | ⟨hp, v2, v3⟩
  · rw [v2, v3, dg_c v1, dg_m v1]
    cases q : dgN v with
    | none => exact Or.inr ⟨if_pos rfl, rfl⟩
    | some d =>
      have d16 := dg_lt q
      left
      refine ⟨d, d16, hp, ?_, rfl⟩
      show (if nI d = (-1) then _ else if nI d ≤ nI 15 then _ else _) = _
      rw [if_neg (nI_nem1 (by omega)), if_pos ((nI_leI (by omega) (by decide)).mpr (by omega))]
  · rw [v2, v3]
    exact Or.inr ⟨if_pos rfl, by decide⟩
/-- add's order -/
theorem add_both {T M : Nat → Nat → Int32} {len pos n : Nat} (h : TR T M len pos) (e : T 0 1 = nI n) (hn : n < 20) (a : Int32) :
    (C6_readDigit T (nI 15) = ((-1), T) ∧ C8_hex (C8_code M) = (-5)) ∨ ∃ d, d < 16 ∧ pos < len ∧ C8_hex (C8_code M) = nI d ∧ C6_readDigit T (nI 15) = (nI d, up1 T 0 2 (T 0 2 + nI 1)) ∧ C6_store (up1 T 0 2 (T 0 2 + nI 1)) a (nI 0) (nI d) (nI 0) = (nI 1, stT (up1 T 0 2 (T 0 2 + nI 1)) n a (nI 0) (nI d)) := by
  rcases hex_both h with ⟨d, d16, hp, q1, q2⟩ | q
  · refine Or.inr ⟨d, d16, hp, q2, q1, store_ok ?_ hn (fun z => nI_pos (show d < 2 ^ 31 by omega) z)⟩
    rw [up1_at, if_neg (by omega)]
    exact e
  · exact Or.inl q
