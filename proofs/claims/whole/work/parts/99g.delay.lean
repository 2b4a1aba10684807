/-! a delay's order in a text, on both sides -/
def stT (T : Nat → Nat → Int32) (n : Nat) (a b x : Int32) : Nat → Nat → Int32 := up1 (up1 (up1 (up1 T 2 n a) 3 n b) 4 n x) 0 1 (nI (n + 1))
theorem store_no {T : Nat → Nat → Int32} {a b x y : Int32} (h : x < y) : C6_store T a b x y = (nI 0, T) := if_pos h
theorem store_ok {T : Nat → Nat → Int32} {a b x y : Int32} {n : Nat} (e : T 0 1 = nI n) (hn : n < 20) (h : ¬ x < y) : C6_store T a b x y = (nI 1, stT T n a b x) := by
  unfold C6_store stT
  rw [if_neg h, e, tN_nI (show n < 2 ^ 31 by omega), if_pos hn]
  have q : up1 (up1 (up1 T 2 n a) 3 n b) 4 n x 0 1 = nI n := by
    rw [up1_at, if_neg (by omega), up1_at, if_neg (by omega), up1_at, if_neg (by omega)]; exact e
  try dsimp only
  rw [q, nI_add]
theorem TR_st {T M : Nat → Nat → Int32} {len pos n : Nat} {a b x : Int32} (h : TR T M len pos) : TR (stT T n a b x) M len pos := by
  refine TR_fr h ?_ ?_ ?_ rfl rfl rfl
  · unfold stT
    rw [up1_at, if_neg (by omega), up1_at, if_neg (by omega), up1_at, if_neg (by omega), up1_at, if_neg (by omega)]
  · unfold stT
    rw [up1_at, if_neg (by omega), up1_at, if_neg (by omega), up1_at, if_neg (by omega), up1_at, if_neg (by omega)]
  · unfold stT
    exact (setC_ne (by decide)).trans ((setC_ne (by decide)).trans ((setC_ne (by decide)).trans (setC_ne (by decide))))
theorem d6_both {T M : Nat → Nat → Int32} {len pos : Nat} (h : TR T M len pos) : (∃ d, d ≤ 6 ∧ pos < len ∧ C6_readDigit T (nI 6) = (nI d, up1 T 0 2 (T 0 2 + nI 1)) ∧ C8_code M - nI 48 = nI d) ∨ (C6_readDigit T (nI 6) = ((-1), T) ∧ C8_within (C8_code M - nI 48) (nI 0) (nI 6) = 0) := by
  unfold C6_readDigit
  rcases dec_both h with ⟨d, d9, hp, a1, a2⟩ | ⟨a1, a2⟩
  · rw [a1, a2, if_neg (nI_nem1 (by omega))]
    by_cases c : d ≤ 6
    · rw [if_pos ((nI_leI (by omega) (by decide)).mpr c)]
      exact Or.inl ⟨d, c, hp, rfl, rfl⟩
    · rw [if_neg (fun z => c ((nI_leI (by omega) (by decide)).mp z))]
      exact Or.inr ⟨rfl, wi_out (by decide) (by decide) (Or.inr ((nI_ltI (by decide) (by omega)).mpr (by omega)))⟩
  · right
    refine ⟨?_, wi_out (by decide) (by decide) (a2.imp id (fun z => ?_))⟩
    · rcases a1 with e | ⟨e, -, e9⟩
      · rw [e, if_pos rfl]
      · rw [if_neg e, if_neg]
        intro z
        exact absurd (Int32.lt_of_lt_of_le e9 z) (by decide)
    · have q : (nI 6 : Int32) < nI 9 := by decide
      exact Int32.lt_of_lt_of_le q (Int32.le_of_lt z)
/-- one sign that is not the end's -/
theorem sign_both {T M : Nat → Nat → Int32} {len pos s : Nat} (h : TR T M len pos) (hs : 0 < s) (hs2 : s < 65536) : (pos < len ∧ C6_readSign T (nI s) = (nI 1, up1 T 0 2 (T 0 2 + nI 1)) ∧ C8_code M = nI s) ∨ (C6_readSign T (nI s) = (nI 0, T) ∧ ¬ C8_code M = nI s) := by
  unfold C6_readSign
  rcases TR_cur h with ⟨hp, v, v1, v2, v3⟩ | ⟨hp, v2, v3⟩
  · rw [v2, v3]
    by_cases c : v = s
    · rw [if_pos (by rw [c])]
      exact Or.inl ⟨hp, rfl, by rw [c]⟩
    · have q : ¬ nI v = nI s := fun z => c ((nI_eq (by omega) (by omega)).mp z)
      rw [if_neg q]
      exact Or.inr ⟨rfl, q⟩
  · rw [v2, v3, if_neg (fun z => nI_nem1 (show s < 2 ^ 31 by omega) z.symm)]
    exact Or.inr ⟨rfl, fun z => by rw [nI_eq (by decide) (by omega)] at z; omega⟩
