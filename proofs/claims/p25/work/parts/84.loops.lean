/-! all that arrive up to a time, and until all is quiet, on both sides -/
theorem wf_of {V : Nat → Nat → Int32} {m : Nat → Int32} {L : List (Nat × Nat)} {n p nS t cap : Nat} {ph : Nat → Nat} (h : Rel V m L n p) (i : Inv V L n p nS t ph cap) : WF V := by
  obtain ⟨-, ⟨r1, r2, r3, hd, r4, r5, -⟩, -, -, h5, ⟨p1, p2, p3, p4, -⟩, -⟩ := h
  obtain ⟨c0, a0, a1, -⟩ := h5 0 (by decide)
  obtain ⟨c1, b0, b1, -⟩ := h5 1 (by decide)
  refine ⟨⟨?_, ?_⟩, ?_, ?_, ?_, ?_, ?_⟩
  · show vp_in (V 4 0) 64
    rw [r5]; exact vp_in_nI' r4
  · show vp_in (V 4 1) 65
    rw [r3]; exact vp_in_nI' (by omega)
  · rw [i.1.2.2.1]; exact vp_in_nI' (by have := i.1.2.1; omega)
  · rw [p3]; exact nI_pos (by omega)
  · rw [p4]; exact nI_pos (by omega)
  · show vp_in (V (27 + 0) 0) 21
    rw [a1]; exact vp_in_nI' a0
  · show vp_in (V (27 + 1) 0) 21
    rw [b1]; exact vp_in_nI' b0
theorem mf_of {V M : Nat → Nat → Int32} {L : List (Nat × Nat)} {n p nS t cap : Nat} {ph : Nat → Nat} (h : Rel V (M 1) L n p) (i : Inv V L n p nS t ph cap) : MF M := by
  have hl := inv_len i
  refine ⟨by rw [h.2.2.1.1]; exact vp_in_nI' (by omega), ?_, by rw [h.2.2.2.2.2.1.2.2.2.2.1]; exact vp_in_nI' (by have := inv_p i; omega)⟩
  have e : V 0 0 = M 1 3 := R_eq h (c := 0) (i := 0) (by decide)
  rw [← e, i.1.2.2.1]; exact vp_in_nI' (by have := i.1.2.1; omega)
theorem mfn_of {V M : Nat → Nat → Int32} {L : List (Nat × Nat)} {n p nS t cap r : Nat} {ph : Nat → Nat} (h : Rel V (M 1) L n p) (i : Inv V L n p nS t ph cap) (hr : isF L r) : MFn M r := by
  have hl := inv_len i
  have e10 : tN (M 1 10) = L.length := by rw [h.2.2.1.1]; exact tN_nI (by omega)
  have hx := h.2.2.1.2 r hr.1
  have hm := getD_mem hr.1
  have hls := (i.2.1 _ hm).2.2
  have n6 := i.1.2.1
  have e : V 0 0 = M 1 3 := R_eq h (c := 0) (i := 0) (by decide)
  refine ⟨by rw [e10]; exact hr.1, ?_, ?_⟩
  · rw [hx.2.1]; exact vp_in_nI' (by omega)
  · rw [hx.2.1, ← e, i.1.2.2.1, tN_nI (by omega), tN_nI (by omega)]; exact hls
theorem first_of {V M : Nat → Nat → Int32} {L : List (Nat × Nat)} {n p nS t cap r : Nat} {ph : Nat → Nat} (h : Rel V (M 1) L n p) (i : Inv V L n p nS t ph cap) (hr : isF L r) : C2_isQuiet V = 0 ∧ C0_firstTime (chU V) = nI (L.getD r (0, 0)).1 ∧ C8_whenOf M r = nI (L.getD r (0, 0)).1 := by
  obtain ⟨A, B, eL, eA, hA, hB⟩ := isF_cut hr
  have hl := inv_len i
  refine ⟨?_, (ring_first (A := A) (B := B) (x := L.getD r (0, 0)) (by rw [← eL]; exact h.2.1) hA hB).1, (h.2.2.1.2 r hr.1).1⟩
  unfold C2_isQuiet
  rw [if_neg]
  · rfl
  · rw [h.2.1.2.2.1, nI_eq0 (by omega)]
    have := hr.1
    omega
theorem quiet_of {V : Nat → Nat → Int32} {m : Nat → Int32} {n p : Nat} (h : Rel V m [] n p) : ¬ C2_isQuiet V = 0 := by
  unfold C2_isQuiet
  rw [if_pos (show V 4 1 = 0 from h.2.1.2.2.1)]
  decide
theorem inv_t31 {V : Nat → Nat → Int32} {L : List (Nat × Nat)} {n p nS t cap : Nat} {ph : Nat → Nat} (i : Inv V L n p nS t ph cap) (ht : t < 2 ^ 29) : ∀ x ∈ L, x.1 < 2 ^ 31 := fun x hx => by
  have := (i.2.1 x hx).2.1; omega
theorem loopG (T : Nat) (hT : T < 2 ^ 31) : ∀ (N : Nat) (V M : Nat → Nat → Int32) (L : List (Nat × Nat)) (n p nS t cap : Nat) (ph : Nat → Nat), mu V L nS ph = N → Rel V (M 1) L n p → Inv V L n p nS t ph cap → t + 40 * N < 2 ^ 29 → cap < 2 ^ 29 → ∀ q Q, N < q → N < Q →
    gtoOK (nI T) q M ∧ lauOK (nI T) Q V ∧ ∃ L' n' p' t' ph', Rel (lauL (nI T) Q V) (gtoL (nI T) q M 1) L' n' p' ∧ Inv (lauL (nI T) Q V) L' n' p' nS t' ph' cap ∧ (∀ x ∈ L', T < x.1) ∧ t ≤ t' ∧ (t' = t ∨ t' ≤ T) ∧ t' ≤ t + 40 * N ∧ mu (lauL (nI T) Q V) L' nS ph' ≤ N ∧ n ≤ n' ∧ (Off V → Off (lauL (nI T) Q V)) := by
  intro N
  induction N with
  | zero =>
    intro V M L n p nS t cap ph hmu h i ht hcb q Q hq hQ
    obtain ⟨q, rfl⟩ : ∃ r, q = r + 1 := ⟨q - 1, by omega⟩
    obtain ⟨Q, rfl⟩ : ∃ r, Q = r + 1 := ⟨Q - 1, by omega⟩
    have hl := inv_len i
    cases L with
    | nil =>
      have e := next_0 h.2.2.1
      have eQ := quiet_of h
      refine ⟨⟨mf_of h i, fun z => absurd e z⟩, ⟨wf_of h i, fun z => absurd z eQ⟩, ?_⟩
      rw [show gtoL (nI T) (q + 1) M = M from if_pos e, show lauL (nI T) (Q + 1) V = V from if_neg eQ]
      exact ⟨[], n, p, t, ph, h, i, fun x hx => absurd hx List.not_mem_nil, Nat.le_refl t, Or.inl rfl, by omega, by omega, Nat.le_refl n, id⟩
    | cons x L =>
      obtain ⟨r, -, hr⟩ := next_M h.2.2.1 (by omega) (inv_t31 i (by omega)) (Nat.succ_pos _)
      obtain ⟨L', n', p', t', ph', -, -, hm, -⟩ := step h i hr (by omega) hcb
      omega
  | succ N ih =>
    intro V M L n p nS t cap ph hmu h i ht hcb q Q hq hQ
    obtain ⟨q, rfl⟩ : ∃ r, q = r + 1 := ⟨q - 1, by omega⟩
    obtain ⟨Q, rfl⟩ : ∃ r, Q = r + 1 := ⟨Q - 1, by omega⟩
    have hl := inv_len i
    by_cases hL : L = []
    · subst hL
      have e := next_0 h.2.2.1
      have eQ := quiet_of h
      refine ⟨⟨mf_of h i, fun z => absurd e z⟩, ⟨wf_of h i, fun z => absurd z eQ⟩, ?_⟩
      rw [show gtoL (nI T) (q + 1) M = M from if_pos e, show lauL (nI T) (Q + 1) V = V from if_neg eQ]
      exact ⟨[], n, p, t, ph, h, i, fun x hx => absurd hx List.not_mem_nil, Nat.le_refl t, Or.inl rfl, by omega, by omega, Nat.le_refl n, id⟩
    · have hpos : 0 < L.length := List.length_pos_iff.mpr hL
      obtain ⟨r, er, hr⟩ := next_M h.2.2.1 (by omega) (inv_t31 i (by omega)) hpos
      have hr31 : r < 2 ^ 31 := by have := hr.1; omega
      have ne : ¬ C8_nextChange M = (-5) := by rw [er]; exact nx_ne hr31
      have tr : tN (C8_nextChange M) = r := by rw [er]; exact tN_nI hr31
      obtain ⟨f1, f2, f3⟩ := first_of h i hr
      have hx31 := inv_t31 i (by omega) _ (getD_mem hr.1)
      by_cases c : T < (L.getD r (0, 0)).1
      · have cT : nI T < C0_firstTime (chU V) := by rw [f2]; exact (nI_ltI hT hx31).mpr c
        have cM : nI T < C8_whenOf M (tN (C8_nextChange M)) := by rw [tr, f3]; exact (nI_ltI hT hx31).mpr c
        refine ⟨⟨mf_of h i, fun _ z => absurd cM z⟩, ⟨wf_of h i, fun _ z => absurd cT z⟩, ?_⟩
        have eg : gtoL (nI T) (q + 1) M = M := by
          show (if _ then _ else _) = _
          rw [if_neg ne, if_pos cM]
        have el : lauL (nI T) (Q + 1) V = V := by
          show (if _ then _ else _) = _
          rw [if_pos f1, if_pos cT]
        rw [eg, el]
        refine ⟨L, n, p, t, ph, h, i, fun x hx => ?_, Nat.le_refl t, Or.inl rfl, by omega, by omega, Nat.le_refl n, id⟩
        obtain ⟨k, hk, e⟩ := List.getElem_of_mem hx
        have := hr.2.1 k hk
        rw [show L.getD k (0, 0) = x by rw [List.getD_eq_getElem?_getD, List.getElem?_eq_getElem hk]; exact e] at this
        omega
      · have cT : ¬ nI T < C0_firstTime (chU V) := by rw [f2, nI_ltI hT hx31]; exact c
        have cM : ¬ nI T < C8_whenOf M (tN (C8_nextChange M)) := by rw [tr, f3, nI_ltI hT hx31]; exact c
        obtain ⟨L', n', p', t', ph', R, I, hm, g1, g2, g3, g4⟩ := step h i hr (by omega) hcb
        have em : marS M = C8_arrive M r := by unfold marS; rw [tr]
        rw [← em] at R
        obtain ⟨x1, x2, L2, n2, p2, t2, ph2, y1, y2, y3, y4, y5, y6, y7, y8, y9⟩ := ih (lauS V) (marS M) L' n' p' nS t' cap ph' (by omega) R I (by omega) hcb q Q (by omega) (by omega)
        refine ⟨⟨mf_of h i, fun _ _ => ⟨by rw [tr]; exact mfn_of h i hr, x1⟩⟩, ⟨wf_of h i, fun _ _ => x2⟩, ?_⟩
        have eg : gtoL (nI T) (q + 1) M = gtoL (nI T) q (marS M) := by
          show (if _ then _ else _) = _
          rw [if_neg ne, if_neg cM]
        have el : lauL (nI T) (Q + 1) V = lauL (nI T) Q (lauS V) := by
          show (if _ then _ else _) = _
          rw [if_pos f1, if_neg cT]
        rw [eg, el]
        exact ⟨L2, n2, p2, t2, ph2, y1, y2, y3, by omega, by omega, by omega, by omega, by omega, fun o => y9 (off_lau i.1.2.1 i.1.2.2.1 (rwg_of h.2.2.2.2.1) o)⟩
/-- until all is quiet -/
theorem loopS (T : Nat) (hT : T < 2 ^ 31) (hT2 : 2 ^ 30 ≤ T) : ∀ (N : Nat) (V M : Nat → Nat → Int32) (L : List (Nat × Nat)) (n p nS t cap : Nat) (ph : Nat → Nat), mu V L nS ph = N → Rel V (M 1) L n p → Inv V L n p nS t ph cap → t + 40 * N < 2 ^ 29 → cap < 2 ^ 29 → ∀ q Q, N < q → N < Q →
    setOK q M ∧ lauOK (nI T) Q V ∧ ∃ n' p' t' ph', Rel (lauL (nI T) Q V) (setL q M 1) [] n' p' ∧ Inv (lauL (nI T) Q V) [] n' p' nS t' ph' cap ∧ t ≤ t' ∧ t' ≤ t + 40 * N ∧ n ≤ n' ∧ (Off V → Off (lauL (nI T) Q V)) := by
  intro N
  induction N with
  | zero =>
    intro V M L n p nS t cap ph hmu h i ht hcb q Q hq hQ
    obtain ⟨q, rfl⟩ : ∃ r, q = r + 1 := ⟨q - 1, by omega⟩
    obtain ⟨Q, rfl⟩ : ∃ r, Q = r + 1 := ⟨Q - 1, by omega⟩
    have hl := inv_len i
    cases L with
    | nil =>
      have e := next_0 h.2.2.1
      have eQ := quiet_of h
      refine ⟨⟨mf_of h i, fun z => absurd e z⟩, ⟨wf_of h i, fun z => absurd z eQ⟩, ?_⟩
      rw [show setL (q + 1) M = M from if_pos e, show lauL (nI T) (Q + 1) V = V from if_neg eQ]
      exact ⟨n, p, t, ph, h, i, Nat.le_refl t, by omega, Nat.le_refl n, id⟩
    | cons x L =>
      obtain ⟨r, -, hr⟩ := next_M h.2.2.1 (by omega) (inv_t31 i (by omega)) (Nat.succ_pos _)
      obtain ⟨L', n', p', t', ph', -, -, hm, -⟩ := step h i hr (by omega) hcb
      omega
  | succ N ih =>
    intro V M L n p nS t cap ph hmu h i ht hcb q Q hq hQ
    obtain ⟨q, rfl⟩ : ∃ r, q = r + 1 := ⟨q - 1, by omega⟩
    obtain ⟨Q, rfl⟩ : ∃ r, Q = r + 1 := ⟨Q - 1, by omega⟩
    have hl := inv_len i
    by_cases hL : L = []
    · subst hL
      have e := next_0 h.2.2.1
      have eQ := quiet_of h
      refine ⟨⟨mf_of h i, fun z => absurd e z⟩, ⟨wf_of h i, fun z => absurd z eQ⟩, ?_⟩
      rw [show setL (q + 1) M = M from if_pos e, show lauL (nI T) (Q + 1) V = V from if_neg eQ]
      exact ⟨n, p, t, ph, h, i, Nat.le_refl t, by omega, Nat.le_refl n, id⟩
    · have hpos : 0 < L.length := List.length_pos_iff.mpr hL
      obtain ⟨r, er, hr⟩ := next_M h.2.2.1 (by omega) (inv_t31 i (by omega)) hpos
      have hr31 : r < 2 ^ 31 := by have := hr.1; omega
      have ne : ¬ C8_nextChange M = (-5) := by rw [er]; exact nx_ne hr31
      have tr : tN (C8_nextChange M) = r := by rw [er]; exact tN_nI hr31
      obtain ⟨f1, f2, f3⟩ := first_of h i hr
      have hx31 := inv_t31 i (by omega) _ (getD_mem hr.1)
      have hx30 := (i.2.1 _ (getD_mem hr.1)).2.1
      have cT : ¬ nI T < C0_firstTime (chU V) := by rw [f2, nI_ltI hT hx31]; omega
      obtain ⟨L', n', p', t', ph', R, I, hm, g1, g2, g3, g4⟩ := step h i hr (by omega) hcb
      have em : marS M = C8_arrive M r := by unfold marS; rw [tr]
      rw [← em] at R
      obtain ⟨x1, x2, n2, p2, t2, ph2, y1, y2, y3, y4, y5, y9⟩ := ih (lauS V) (marS M) L' n' p' nS t' cap ph' (by omega) R I (by omega) hcb q Q (by omega) (by omega)
      refine ⟨⟨mf_of h i, fun _ => ⟨by rw [tr]; exact mfn_of h i hr, x1⟩⟩, ⟨wf_of h i, fun _ _ => x2⟩, ?_⟩
      have eg : setL (q + 1) M = setL q (marS M) := by
        show (if _ then _ else _) = _
        rw [if_neg ne]
      have el : lauL (nI T) (Q + 1) V = lauL (nI T) Q (lauS V) := by
        show (if _ then _ else _) = _
        rw [if_pos f1, if_neg cT]
      rw [eg, el]
      exact ⟨n2, p2, t2, ph2, y1, y2, by omega, by omega, by omega, fun o => y9 (off_lau i.1.2.1 i.1.2.2.1 (rwg_of h.2.2.2.2.1) o)⟩
