def OrR (T M : Nat → Nat → Int32) (len pos n : Nat) (C R : Int32 × (Nat → Nat → Int32)) : Prop :=
  Mz M R.2 ∧ ((C.1 = nI 0 ∧ R.1 = nI 0 ∧ Tz T C.2 ∧ ∃ pos', TR C.2 R.2 len pos') ∨ ∃ a b x pos' T', (a = 46 ∨ a = 97 ∨ a = 98 ∨ a = 100 ∨ a = 107 ∨ a = 114) ∧ b ≤ 6 ∧ x ≤ 99 ∧ pos + 1 < pos' ∧ Tz T T' ∧ C = (nI 1, stT T' n (nI a) (nI b) (nI x)) ∧ R.1 = nI 1 ∧ R.2 0 4 = nI a ∧ (100 ≤ a → R.2 0 5 = nI b) ∧ R.2 0 6 = nI x ∧ TR C.2 R.2 len pos')
theorem OrR_del {T T2 M M2 : Nat → Nat → Int32} {len pos n a : Nat} {C R : Int32 × (Nat → Nat → Int32)} (ha : a = 100 ∨ a = 107 ∨ a = 114) (tz : Tz T T2) (mz : Mz M M2) (m4 : M2 0 4 = nI a) (h : RdR T2 M2 len (pos + 1) n (nI a) C R) : OrR T M len pos n C R := by
  obtain ⟨z, k4, h⟩ := h
  refine ⟨⟨fun c hc => (z.1 c hc).trans (mz.1 c hc), fun j hj => (z.2 j hj).trans (mz.2 j hj)⟩, ?_⟩
  rcases h with ⟨p, q, r, s⟩ | ⟨b, x, pos', T', b6, x20, pp, tz', p, q, r, s, t⟩
  · exact Or.inl ⟨p, q, ⟨fun c hc => (r.1 c hc).trans (tz.1 c hc), fun j hj => (r.2 j hj).trans (tz.2 j hj)⟩, s⟩
  · exact Or.inr ⟨a, b, x, pos', T', by omega, b6, by omega, by omega, ⟨fun c hc => (tz'.1 c hc).trans (tz.1 c hc), fun j hj => (tz'.2 j hj).trans (tz.2 j hj)⟩, p, q, k4.trans m4, fun _ => r, s, t⟩
/-- the reference's reading of an add's digit -/
def hexR (M : Nat → Nat → Int32) : Int32 × (Nat → Nat → Int32) :=
  let V5 := up1 M 0 6 (C8_hex (C8_code M))
  if (V5 0 6) = (-5) then
    let V7 := up1 V5 0 3 ((V5 0 3) + (nI 0))
    if (V7 0 6) = (-5) then
      ((nI 0), V7)
    else
      ((nI 1), V7)
  else
    let V6 := up1 V5 0 3 ((V5 0 3) + (nI 1))
    if (V6 0 6) = (-5) then
      ((nI 0), V6)
    else
      ((nI 1), V6)
theorem hexR_no {M : Nat → Nat → Int32} (h : C8_hex (C8_code M) = (-5)) : hexR M = (nI 0, up1 (up1 M 0 6 (-5)) 0 3 ((up1 M 0 6 (-5)) 0 3 + nI 0)) := by
  unfold hexR
  rw [h]
  exact (if_pos rfl).trans (if_pos rfl)
theorem hexR_ok {M : Nat → Nat → Int32} {d : Nat} (hd : d < 16) (h : C8_hex (C8_code M) = nI d) : hexR M = (nI 1, up1 (up1 M 0 6 (nI d)) 0 3 ((up1 M 0 6 (nI d)) 0 3 + nI 1)) := by
  unfold hexR
  rw [h]
  have q : ¬ nI d = (-5) := nI_ne5 (by omega)
  exact (if_neg q).trans (if_neg q)
theorem ord_both {T M : Nat → Nat → Int32} {len pos n : Nat} (h : TR T M len pos) (e : T 0 1 = nI n) (hn : n < 20) : OrR T M len pos n (C6_readOrder T) (C8_readsOrder M) := by
  have w4 : ∀ x : Int32, TR T (up1 M 0 4 x) len pos := fun x => TR_fr h rfl rfl rfl (by rw [up1_at, if_neg (by decide)]) (by rw [up1_at, if_neg (by decide)]) (setC_ne (by decide))
  have z4 : ∀ x : Int32, up1 M 0 4 x 0 4 = x := fun x => by rw [up1_at, if_pos ⟨rfl, rfl⟩]
  unfold C6_readOrder C8_readsOrder
  try dsimp only
  rw [z4]
  rcases TR_cur h with ⟨hp, v, v1, v2, v3⟩ | ⟨hp, v2, v3⟩
  · rw [v2, v3]
    have h2 := TR_next (w4 (nI v)) hp
    obtain ⟨M1, hM1⟩ : ∃ z, z = up1 M 0 4 (nI v) := ⟨_, rfl⟩
    obtain ⟨M2, hM2⟩ : ∃ z, z = up1 M1 0 3 (M1 0 3 + nI 1) := ⟨_, rfl⟩
    obtain ⟨T2, hT2⟩ : ∃ z, z = up1 T 0 2 (T 0 2 + nI 1) := ⟨_, rfl⟩
    have mz1 : Mz M M1 := by rw [hM1]; exact Mz_up (Mz_r M) (by decide)
    have mz2 : Mz M M2 := by rw [hM2]; exact Mz_up mz1 (by decide)
    have m4 : M2 0 4 = nI v := by rw [hM2, up1_at, if_neg (by decide), hM1]; exact z4 _
    have tz2 : Tz T T2 := by rw [hT2]; exact Tz_up (Tz_r T)
    have e2 : T2 0 1 = nI n := (tz2.2 1 (by decide)).trans e
    have h1 : TR T M1 len pos := by rw [hM1]; exact w4 _
    rw [← hM1, ← hM2, ← hT2] at h2
    rw [← hM1, ← hM2, ← hT2]
    have ne : ∀ k : Nat, k < 65536 → v ≠ k → ¬ nI v = nI k := fun k hk hv z => hv ((nI_eq (by omega) (by omega)).mp z)
    -- add's order behind its letter
    have addG : ∀ C R : Int32 × (Nat → Nat → Int32), (v = 97 ∨ v = 98) → (C8_hex (C8_code M2) = (-5) → C6_readDigit T2 (nI 15) = ((-1), T2) → C = (nI 0, T2) ∧ R.1 = nI 0 ∧ Mz M R.2 ∧ TR T2 R.2 len (pos + 1)) → (∀ d, d < 16 → C8_hex (C8_code M2) = nI d → C6_readDigit T2 (nI 15) = (nI d, up1 T2 0 2 (T2 0 2 + nI 1)) → C6_store (up1 T2 0 2 (T2 0 2 + nI 1)) (nI v) (nI 0) (nI d) (nI 0) = (nI 1, stT (up1 T2 0 2 (T2 0 2 + nI 1)) n (nI v) (nI 0) (nI d)) → C = (nI 1, stT (up1 T2 0 2 (T2 0 2 + nI 1)) n (nI v) (nI 0) (nI d)) ∧ R = (nI 1, up1 (up1 M2 0 6 (nI d)) 0 3 ((up1 M2 0 6 (nI d)) 0 3 + nI 1))) → OrR T M len pos n C R := fun C R hv f1 f2 => by
      rcases add_both h2 e2 hn (nI v) with ⟨q1, q2⟩ | ⟨d, d16, hp2, q1, q2, q3⟩
      · obtain ⟨y1, y2, y3, y4⟩ := f1 q2 q1
        exact ⟨y3, Or.inl ⟨by rw [y1], y2, by rw [y1]; exact tz2, pos + 1, by rw [y1]; exact y4⟩⟩
      · obtain ⟨y1, y2⟩ := f2 d d16 q1 q2 q3
        have h6 : TR T2 (up1 M2 0 6 (nI d)) len (pos + 1) := TR_fr h2 rfl rfl rfl (by rw [up1_at, if_neg (by decide)]) (by rw [up1_at, if_neg (by decide)]) (setC_ne (by decide))
        have h3 := TR_next h6 hp2
        rw [y1, y2]
        refine ⟨Mz_up (Mz_up mz2 (by decide)) (by decide), Or.inr ⟨v, 0, d, pos + 1 + 1, up1 T2 0 2 (T2 0 2 + nI 1), by omega, by decide, by omega, by omega, Tz_up tz2, rfl, rfl, ?_, fun z => by omega, ?_, TR_st h3⟩⟩
        · show up1 (up1 M2 0 6 (nI d)) 0 3 ((up1 M2 0 6 (nI d)) 0 3 + nI 1) 0 4 = nI v
          rw [up1_at, if_neg (by decide), up1_at, if_neg (by decide)]
          exact m4
        · show up1 (up1 M2 0 6 (nI d)) 0 3 ((up1 M2 0 6 (nI d)) 0 3 + nI 1) 0 6 = nI d
          rw [up1_at, if_neg (by decide), up1_at, if_pos ⟨rfl, rfl⟩]
    have hexF : ∀ (C R : Int32 × (Nat → Nat → Int32)), (v = 97 ∨ v = 98) → C = ((C6_store (C6_readDigit T2 (nI 15)).2 (nI v) (nI 0) (C6_readDigit T2 (nI 15)).1 (nI 0)).1, (C6_store (C6_readDigit T2 (nI 15)).2 (nI v) (nI 0) (C6_readDigit T2 (nI 15)).1 (nI 0)).2) → R = hexR M2 → OrR T M len pos n C R := fun C R hv eC eR => by
      refine addG C R hv (fun q1 q2 => ?_) (fun d d16 q1 q2 q3 => ?_)
      · rw [eC, eR, q2, hexR_no q1]
        rw [store_no (show (-1 : Int32) < nI 0 by decide)]
        have t3 : M2 0 3 + nI 0 = M2 0 3 := by
          rw [h2.2.2.2.1, nI_add]
        exact ⟨rfl, rfl, Mz_up (Mz_up mz2 (by decide)) (by decide), TR_fr h2 rfl rfl rfl rfl t3 rfl⟩
      · rw [eC, eR, q2, hexR_ok d16 q1]
        try dsimp only
        rw [q3]
        exact ⟨rfl, rfl⟩
    by_cases c46 : v = 46
    · subst c46
      rw [if_pos rfl, if_pos rfl]
      obtain ⟨k1, k2, k3⟩ := Mz_num (g := nI 99) mz2
      have tz4 := Tz_num (g := nI 99) tz2
      refine ⟨k1, ?_⟩
      rcases num_both (g := 99) h2 (by decide) (by decide) with ⟨c1, c2, c3⟩ | ⟨x, pos', x1, x2, x3, c1, c2, c3, c4⟩
      · left
        rw [c1, store_no (show nI 0 < nI 1 by decide)]
        exact ⟨rfl, c2, tz4, _, c3⟩
      · right
        have so := store_ok (T := (C6_readNumber T2 (nI 99)).2) (a := nI 46) (b := nI 0) (x := nI x) (y := nI 1) ((tz4.2 1 (by decide)).trans e) hn (show ¬ nI x < nI 1 by rw [nI_ltI (by omega) (by decide)]; omega)
        refine ⟨46, 0, x, pos', (C6_readNumber T2 (nI 99)).2, by omega, by decide, x2, by omega, tz4, ?_, c2, k2.trans m4, fun z => by omega, c3, ?_⟩
        · rw [c1, so]
        · rw [c1, so]
          exact TR_st c4
    · rw [if_neg (ne 46 (by decide) c46), if_neg (ne 46 (by decide) c46)]
      by_cases c97 : v = 97
      · subst c97
        rw [if_pos rfl, if_pos rfl]
        exact hexF _ _ (Or.inl rfl) rfl rfl
      · rw [if_neg (ne 97 (by decide) c97), if_neg (ne 97 (by decide) c97)]
        by_cases c98 : v = 98
        · subst c98
          rw [if_pos rfl, if_pos rfl]
          exact hexF _ _ (Or.inr rfl) rfl rfl
        · rw [if_neg (ne 98 (by decide) c98), if_neg (ne 98 (by decide) c98)]
          by_cases c100 : v = 100
          · subst c100
            rw [if_pos rfl, if_pos rfl]
            exact OrR_del (Or.inl rfl) tz2 mz2 m4 (del_both h2 e2 hn _)
          · rw [if_neg (ne 100 (by decide) c100), if_neg (ne 100 (by decide) c100)]
            by_cases c107 : v = 107
            · subst c107
              rw [if_pos rfl, if_pos rfl]
              exact OrR_del (Or.inr (Or.inl rfl)) tz2 mz2 m4 (del_both h2 e2 hn _)
            · rw [if_neg (ne 107 (by decide) c107), if_neg (ne 107 (by decide) c107)]
              by_cases c114 : v = 114
              · subst c114
                rw [if_pos rfl, if_pos rfl]
                exact OrR_del (Or.inr (Or.inr rfl)) tz2 mz2 m4 (del_both h2 e2 hn _)
              · rw [if_neg (ne 114 (by decide) c114), if_neg (ne 114 (by decide) c114)]
                exact ⟨mz1, Or.inl ⟨rfl, rfl, Tz_r T, pos, h1⟩⟩
  · rw [v2, v3, if_neg (by decide), if_neg (by decide), if_neg (by decide), if_neg (by decide), if_neg (by decide), if_neg (by decide), if_neg (by decide), if_neg (by decide), if_neg (by decide), if_neg (by decide), if_neg (by decide), if_neg (by decide)]
    exact ⟨Mz_up (Mz_r M) (by decide), Or.inl ⟨rfl, rfl, Tz_r T, pos, w4 _⟩⟩
