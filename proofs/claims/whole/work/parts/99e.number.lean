/-! numbers in texts on both sides -/
theorem neg48 : ∀ v, v < 48 → nI v - nI 48 < nI 0 := by decide
theorem wi_out {v : Int32} {a b : Nat} (ha : a < 2 ^ 31) (hb : b < 2 ^ 31) (h : v < nI a ∨ nI b < v) : C8_within v (nI a) (nI b) = 0 := by
  unfold C8_within
  by_cases c : v < nI a
  · rw [if_pos c]; rfl
  · rw [if_neg c, if_pos (h.resolve_left c)]; rfl
theorem wi_in {v a b : Nat} (h1 : a ≤ v) (h2 : v ≤ b) (hb : b < 2 ^ 31) : ¬ C8_within (nI v) (nI a) (nI b) = 0 := by
  unfold C8_within
  rw [if_neg (show ¬ nI v < nI a by rw [nI_ltI (by omega) (by omega)]; omega), if_neg (show ¬ nI b < nI v by rw [nI_ltI (by omega) (by omega)]; omega)]
  decide
/-- a decimal digit stands here, or none -/
theorem dec_both {T M : Nat → Nat → Int32} {len pos : Nat} (h : TR T M len pos) : (∃ d, d ≤ 9 ∧ pos < len ∧ C6_digitOf T (C6_current T) = nI d ∧ C8_code M - nI 48 = nI d) ∨ ((C6_digitOf T (C6_current T) = (-1) ∨ (¬ C6_digitOf T (C6_current T) = (-1) ∧ ¬ C6_digitOf T (C6_current T) = 0 ∧ nI 9 < C6_digitOf T (C6_current T))) ∧ (C8_code M - nI 48 < nI 0 ∨ nI 9 < C8_code M - nI 48)) := by
  rcases TR_cur h with ⟨hp, v, v1, v2, v3⟩ | ⟨hp, v2, v3⟩
  · rw [v2, v3, dg_c v1]
    by_cases c : 48 ≤ v ∧ v ≤ 57
    · left
      refine ⟨v - 48, by omega, hp, ?_, pk_sub (by omega)⟩
      unfold dgN
      rw [if_pos c]
    · right
      refine ⟨?_, ?_⟩
      · unfold dgN
        rw [if_neg c]
        by_cases c2 : 97 ≤ v ∧ v ≤ 102
        · rw [if_pos c2]
          right
          refine ⟨nI_nem1 (by omega), ?_, (nI_ltI (by decide) (by omega)).mpr (by omega)⟩
          show ¬ nI (v - 87) = 0
          rw [nI_eq0 (by omega)]; omega
        · rw [if_neg c2]
          exact Or.inl rfl
      · by_cases c3 : v < 48
        · exact Or.inl (neg48 v c3)
        · right
          rw [pk_sub (by omega)]
          exact (nI_ltI (by decide) (by omega)).mpr (by omega)
  · rw [v2, v3]
    exact ⟨Or.inl rfl, Or.inl (neg48 0 (by decide))⟩ |> Or.inr
theorem nu_mul {a b : Nat} : nI a * nI b = nI (a * b) := by
  show Int32.ofNat a * Int32.ofNat b = Int32.ofNat (a * b)
  exact (Int32.ofNat_mul a b).symm
theorem num_stop {T : Nat → Nat → Int32} {g : Int32} {q i : Nat} {n : Int32} (h : C6_digitOf T (C6_current T) = (-1) ∨ (¬ C6_digitOf T (C6_current T) = (-1) ∧ ¬ C6_digitOf T (C6_current T) = 0 ∧ nI 9 < C6_digitOf T (C6_current T))) : L6_readNumber g (q + 1) i n T = (n, T) := by
  unfold L6_readNumber
  rcases h with a | ⟨a, b, c⟩
  · rw [a]
    by_cases z : n = 0
    · rw [if_pos z, if_neg (by decide), if_pos rfl]
    · rw [if_neg z, if_pos rfl]
  · by_cases z : n = 0
    · rw [if_pos z, if_neg b, if_neg a, if_pos c]
    · rw [if_neg z, if_neg a, if_pos c]
theorem num_zero {T : Nat → Nat → Int32} {g : Int32} {q i : Nat} (e : C6_digitOf T (C6_current T) = nI 0) : L6_readNumber g (q + 1) i (nI 0) T = (nI 0, T) := by
  unfold L6_readNumber
  rw [e, if_pos (show nI 0 = 0 from rfl), if_pos (show nI 0 = 0 from rfl), if_neg (by decide), if_neg (by decide)]
theorem num_step {T : Nat → Nat → Int32} {g q i n d : Nat} (hn : n < 1000) (hd : d ≤ 9) (hnd : n = 0 → d ≠ 0) (hg : g < 2 ^ 31) (e : C6_digitOf T (C6_current T) = nI d) : L6_readNumber (nI g) (q + 1) i (nI n) T = if 10 * n + d ≤ g then L6_readNumber (nI g) q (i + 1) (nI (10 * n + d)) (up1 T 0 2 (T 0 2 + nI 1)) else (nI n, T) := by
  have em : nI n * nI 10 + nI d = nI (10 * n + d) := by rw [nu_mul, nI_add, Nat.mul_comm]
  have l9 : ¬ nI 9 < nI d := by rw [nI_ltI (by decide) (by omega)]; omega
  have cg : (nI (10 * n + d) ≤ nI g) ↔ 10 * n + d ≤ g := nI_leI (by omega) hg
  show (if nI n = 0 then _ else _) = _
  rw [e, em]
  try dsimp only
  by_cases z : n = 0
  · have d0 := hnd z
    rw [if_pos (show nI n = 0 by rw [z]; rfl), if_neg (show ¬ nI d = 0 by rw [nI_eq0 (by omega)]; exact d0), if_neg (nI_nem1 (by omega)), if_neg l9]
    by_cases c : 10 * n + d ≤ g
    · rw [if_pos (cg.mpr c), if_pos c]
    · rw [if_neg (fun y => c (cg.mp y)), if_neg c]
  · rw [if_neg (show ¬ nI n = 0 by rw [nI_eq0 (by omega)]; exact z), if_neg (nI_nem1 (by omega)), if_neg l9]
    by_cases c : 10 * n + d ≤ g
    · rw [if_pos (cg.mpr c), if_pos c]
    · rw [if_neg (fun y => c (cg.mp y)), if_neg c]
/-- a number is read on both sides -/
theorem num_both {T M : Nat → Nat → Int32} {len pos g : Nat} (h : TR T M len pos) (g1 : 20 ≤ g) (g2 : g ≤ 99) :
    ((C6_readNumber T (nI g)).1 = nI 0 ∧ (C8_readsNumber M (nI g)).1 = nI 0 ∧ TR (C6_readNumber T (nI g)).2 (C8_readsNumber M (nI g)).2 len pos) ∨ ∃ x pos', 1 ≤ x ∧ x ≤ g ∧ pos < pos' ∧ (C6_readNumber T (nI g)).1 = nI x ∧ (C8_readsNumber M (nI g)).1 = nI 1 ∧ (C8_readsNumber M (nI g)).2 0 6 = nI x ∧ TR (C6_readNumber T (nI g)).2 (C8_readsNumber M (nI g)).2 len pos' := by
  have w6 : ∀ x : Int32, TR T (up1 M 0 6 x) len pos := fun x => TR_fr h rfl rfl rfl (by rw [up1_at, if_neg (by decide)]) (by rw [up1_at, if_neg (by decide)]) (setC_ne (by decide))
  unfold C6_readNumber C8_readsNumber
  try dsimp only
  have z6 : ∀ x : Int32, up1 M 0 6 x 0 6 = x := fun x => by rw [up1_at, if_pos ⟨rfl, rfl⟩]
  rw [z6]
  rcases dec_both h with ⟨d, d9, hp, a1, a2⟩ | ⟨a1, a2⟩
  · rw [a2]
    by_cases d0 : d = 0
    · left
      subst d0
      rw [num_zero a1, if_pos (wi_out (by decide) (by decide) (Or.inl (by decide)))]
      exact ⟨rfl, rfl, w6 _⟩
    · right
      rw [num_step (n := 0) (by decide) d9 (fun _ => d0) (by omega) a1, if_pos (by omega), if_neg (wi_in (show 1 ≤ d by omega) d9 (by decide)), Nat.mul_zero, show 0 + d = d from Nat.zero_add d]
      have h2 := TR_next (w6 (nI d)) hp
      obtain ⟨M2, hM2⟩ : ∃ z, z = up1 (up1 M 0 6 (nI d)) 0 3 ((up1 M 0 6 (nI d)) 0 3 + nI 1) := ⟨_, rfl⟩
      obtain ⟨T2, hT2⟩ : ∃ z, z = up1 T 0 2 (T 0 2 + nI 1) := ⟨_, rfl⟩
      rw [← hM2, ← hT2] at h2
      rw [← hM2, ← hT2]
      have m6 : M2 0 6 = nI d := by rw [hM2, up1_at, if_neg (by decide)]; exact z6 _
      rw [m6]
      rcases dec_both h2 with ⟨e, e9, hp2, b1, b2⟩ | ⟨b1, b2⟩
      · have w69 : ¬ C8_within (nI e) (nI 0) (nI 9) = 0 := wi_in (Nat.zero_le e) e9 (by decide)
        have em : nI 10 * nI d + nI e = nI (10 * d + e) := by rw [nu_mul, nI_add]
        rw [b2, if_neg w69, em, num_step (q := 58) (g := g) (n := d) (by omega) e9 (fun z => absurd z d0) (by omega) b1]
        by_cases c : 10 * d + e ≤ g
        · rw [if_pos c, if_neg (show ¬ nI g < nI (10 * d + e) by rw [nI_ltI (by omega) (by omega)]; omega)]
          have h3 := TR_next (T := T2) (M := up1 M2 0 6 (nI (10 * d + e))) (TR_fr h2 rfl rfl rfl (by rw [up1_at, if_neg (by decide)]) (by rw [up1_at, if_neg (by decide)]) (setC_ne (by decide))) hp2
          refine ⟨10 * d + e, pos + 1 + 1, by omega, c, by omega, ?_⟩
          have last : L6_readNumber (nI g) 58 (0 + 1 + 1) (nI (10 * d + e)) (up1 T2 0 2 (T2 0 2 + nI 1)) = (nI (10 * d + e), up1 T2 0 2 (T2 0 2 + nI 1)) := by
            rcases dec_both h3 with ⟨f, f9, -, k1, -⟩ | ⟨k1, -⟩
            · rw [num_step (q := 57) (n := 10 * d + e) (by omega) f9 (fun z => by omega) (by omega) k1, if_neg (by omega)]
            · exact num_stop (q := 57) k1
          rw [last]
          exact ⟨rfl, rfl, rfl, h3⟩
        · rw [if_neg c, if_pos ((nI_ltI (by omega) (by omega)).mpr (by omega))]
          exact ⟨d, pos + 1, by omega, by omega, by omega, rfl, rfl, m6, h2⟩
      · rw [if_pos (wi_out (by decide) (by decide) b2), num_stop (q := 58) b1]
        exact ⟨d, pos + 1, by omega, by omega, by omega, rfl, rfl, m6, h2⟩
  · left
    rw [num_stop (q := 59) a1, if_pos (wi_out (by decide) (by decide) (a2.imp (fun z => by
      have : (nI 0 : Int32) ≤ nI 1 := by decide
      exact Int32.lt_of_lt_of_le z this) id))]
    exact ⟨rfl, rfl, w6 _⟩
