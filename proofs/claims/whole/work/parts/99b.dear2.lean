theorem P_dear {c : Nat} {F : Nat → Nat → Nat → Int32} {M : Nat → Nat → Int32} (h : Wh c F M) (hc : c < 2 ^ 29) : vp_in (F 0 0 0) 7 ∧ (∀ (W : Nat → Nat → Int32) (k w : Nat), k ≤ tN (F 0 0 0) → w < 3 → ¬ F 0 (18 + k) w ≤ nI 1 → lauOK (nI 2000000000) 1000000 (up1 (C2_copyFrom W (F 0)) (18 + k) w (C2_copyFrom W (F 0) (18 + k) w - nI 1))) ∧ (∀ k : Nat, k < 3 * tN (M 1 3) + 3 → ¬ drS M k 1 (13 + k) ≤ nI 1 → setOK 5000 (drT (drS M k) k)) ∧ (C7_dearest F).1 = (C8_dearest M).1 ∧ Wh c (C7_dearest F).2 (C8_dearest M).2 := by
  obtain ⟨L, n, p, nS, t, ph, r, i, ht, o⟩ := id h.1
  have n6 := i.1.2.1
  have eS : F 0 0 0 = nI nS := i.1.2.2.1
  have et : F 0 0 1 = nI t := i.1.2.2.2.1
  have m3 := R_n3 r i
  have hs : ∀ k, ∃ F', Wh c F' (drS M k) ∧ F' 0 = F 0 := by
    intro k
    induction k with
    | zero => exact ⟨F, h, rfl⟩
    | succ k ih =>
      obtain ⟨F', h', e'⟩ := ih
      show ∃ F'', Wh c F'' (if drS M k 1 (13 + k) ≤ nI 1 then drS M k else C8_takeBack (C8_settle (drT (drS M k) k)).2) ∧ F'' 0 = F 0
      split
      · exact ⟨F', h', e'⟩
      · exact ⟨_, Wh_dr h' 0 0 k, (k_quietT F' 0 0 (by decide)).trans e'⟩
  refine ⟨by rw [eS]; exact vp_in_nI' (by omega), fun W k w hk hw hd => ?_, fun k hk hd => ?_, ?_⟩
  · rw [eS, tN_nI (show nS < 2 ^ 31 by omega)] at hk
    exact (G_dear (W := W) (nS := nS) (t := t) h.1 hc eS et (by omega) (by omega) hk hw hd).2.2.1
  · rw [m3, tN_nI (show nS < 2 ^ 31 by omega)] at hk
    obtain ⟨F', h', e'⟩ := hs k
    have ek : 3 * (k / 3) + k % 3 = k := by omega
    have mD : drS M k 1 (13 + k) = F' 0 (18 + k / 3) (k % 3) := by
      obtain ⟨L1, n1, p1, nS1, t1, ph1, r1, i1, -⟩ := h'.1
      rw [R_d r1 (by omega) (by omega), show 13 + 3 * (k / 3) + k % 3 = 13 + k by omega]
    rw [mD] at hd
    have := (G_dear (W := F' 1) (nS := nS) (t := t) h'.1 hc (by rw [e']; exact eS) (by rw [e']; exact et) (by omega) (by omega) (show k / 3 ≤ nS by omega) (show k % 3 < 3 by omega) hd).2.1
    rw [ek] at this
    exact this
  · exact L_dear hc n6 (by omega) 28 0 0 (-5) (nI 0) (nI 0) F M h eS et m3 (Or.inl rfl) (Nat.zero_le _) (by decide) (by omega)
