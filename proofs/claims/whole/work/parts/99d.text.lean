/-! the texts on both sides: one sign, one digit -/
def TR (T M : Nat → Nat → Int32) (len pos : Nat) : Prop := T 0 0 = nI len ∧ M 0 2 = nI len ∧ T 0 2 = nI pos ∧ M 0 3 = nI pos ∧ pos ≤ len ∧ len ≤ 60 ∧ ∀ i, i < len → T 1 i = M 5 i ∧ ∃ v, v < 65536 ∧ T 1 i = nI v
theorem TR_cur {T M : Nat → Nat → Int32} {len pos : Nat} (h : TR T M len pos) : (pos < len ∧ ∃ v, v < 65536 ∧ C6_current T = nI v ∧ C8_code M = nI v) ∨ (pos = len ∧ C6_current T = (-1) ∧ C8_code M = nI 0) := by
  obtain ⟨a, b, d, e, hp, hl, hx⟩ := h
  unfold C6_current C8_code
  rw [a, b, d, e, if_neg (nI_pos (show pos < 2 ^ 31 by omega)), tN_nI (show len < 2 ^ 31 by omega), tN_nI (show pos < 2 ^ 31 by omega)]
  by_cases z : len ≤ pos
  · rw [if_pos z, if_pos z]
    exact Or.inr ⟨by omega, rfl, rfl⟩
  · rw [if_neg z, if_neg z]
    obtain ⟨q, v, v1, v2⟩ := hx pos (by omega)
    exact Or.inl ⟨by omega, v, v1, v2, q.symm.trans v2⟩
theorem TR_fr {T T' M M' : Nat → Nat → Int32} {len pos : Nat} (h : TR T M len pos) (t0 : T' 0 0 = T 0 0) (t2 : T' 0 2 = T 0 2) (t1 : T' 1 = T 1) (m2 : M' 0 2 = M 0 2) (m3 : M' 0 3 = M 0 3) (m5 : M' 5 = M 5) : TR T' M' len pos := by
  unfold TR
  rw [t0, t2, t1, m2, m3, m5]
  exact h
theorem TR_next {T M : Nat → Nat → Int32} {len pos : Nat} (h : TR T M len pos) (hp : pos < len) : TR (up1 T 0 2 (T 0 2 + nI 1)) (up1 M 0 3 (M 0 3 + nI 1)) len (pos + 1) := by
  obtain ⟨a, b, d, e, -, hl, hx⟩ := h
  refine ⟨?_, ?_, ?_, ?_, hp, hl, fun i hi => ?_⟩
  · rw [up1_at, if_neg (by decide)]; exact a
  · rw [up1_at, if_neg (by decide)]; exact b
  · rw [up1_at, if_pos ⟨rfl, rfl⟩, d, nI_add]
  · rw [up1_at, if_pos ⟨rfl, rfl⟩, e, nI_add]
  · rw [up1_at, up1_at, if_neg (by omega), if_neg (by omega)]
    exact hx i hi
/-- the digit a sign stands for -/
def dgN (v : Nat) : Option Nat := if 48 ≤ v ∧ v ≤ 57 then some (v - 48) else if 97 ≤ v ∧ v ≤ 102 then some (v - 87) else none
theorem dg_c {T : Nat → Nat → Int32} {v : Nat} (hv : v < 65536) : C6_digitOf T (nI v) = match dgN v with | some d => nI d | none => (-1) := by
  have lt : ∀ a b : Nat, a < 65537 → b < 65537 → (nI a < nI b ↔ a < b) := fun a b ha hb => nI_ltI (by omega) (by omega)
  unfold C6_digitOf dgN
  by_cases c1 : v < 48
  · rw [if_pos ((lt v 48 (by omega) (by decide)).mpr c1), if_pos ((lt v 97 (by omega) (by decide)).mpr (by omega)), if_neg (by omega), if_neg (by omega)]
  · rw [if_neg (fun z => c1 ((lt v 48 (by omega) (by decide)).mp z))]
    by_cases c2 : 57 < v
    · rw [if_pos ((lt 57 v (by decide) (by omega)).mpr c2), if_neg (show ¬ (48 ≤ v ∧ v ≤ 57) by omega)]
      by_cases c3 : v < 97
      · rw [if_pos ((lt v 97 (by omega) (by decide)).mpr c3), if_neg (by omega)]
      · rw [if_neg (fun z => c3 ((lt v 97 (by omega) (by decide)).mp z))]
        by_cases c4 : 102 < v
        · rw [if_pos ((lt 102 v (by decide) (by omega)).mpr c4), if_neg (by omega)]
        · rw [if_neg (fun z => c4 ((lt 102 v (by decide) (by omega)).mp z)), if_pos (by omega), pk_sub (by omega), nI_add]
          show nI (v - 97 + 10) = nI (v - 87)
          congr 1
          omega
    · rw [if_neg (fun z => c2 ((lt 57 v (by decide) (by omega)).mp z)), if_pos (show 48 ≤ v ∧ v ≤ 57 by omega), pk_sub (by omega)]
theorem dg_m {v : Nat} (hv : v < 65536) : C8_hex (nI v) = match dgN v with | some d => nI d | none => (-5) := by
  unfold C8_hex dgN
  rcases wi_ok2 (v := nI v) (a := 48) (b := 57) (by decide) (by decide) with ⟨w0, w1⟩ | ⟨w0, x, x1, x2, e⟩
  · have q : ¬ (48 ≤ v ∧ v ≤ 57) := by
      rcases w1 with q | q
      · rw [nI_ltI (by omega) (by decide)] at q; omega
      · rw [nI_ltI (by decide) (by omega)] at q; omega
    rw [if_pos w0, if_neg q]
    rcases wi_ok2 (v := nI v) (a := 97) (b := 102) (by decide) (by decide) with ⟨u0, u1⟩ | ⟨u0, y, y1, y2, e⟩
    · have q : ¬ (97 ≤ v ∧ v ≤ 102) := by
        rcases u1 with q | q
        · rw [nI_ltI (by omega) (by decide)] at q; omega
        · rw [nI_ltI (by decide) (by omega)] at q; omega
      rw [if_pos u0, if_neg q]
    · have ev : v = y := (nI_eq (by omega) (by omega)).mp e
      rw [if_neg u0, if_pos (by omega), pk_sub (by omega), nI_add]
      show nI (v - 97 + 10) = nI (v - 87)
      congr 1
      omega
  · have ev : v = x := (nI_eq (by omega) (by omega)).mp e
    rw [if_neg w0, if_pos (by omega), pk_sub (by omega)]
theorem dg_lt {v d : Nat} (h : dgN v = some d) : d < 16 := by
  unfold dgN at h
  split at h
  · injection h with h; omega
  · split at h
    · injection h with h; omega
    · injection h
