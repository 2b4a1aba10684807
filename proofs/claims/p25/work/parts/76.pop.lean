/-! the first change leaves both lists; what the class's line shows then -/
def popV (V : Nat → Nat → Int32) : Nat → Nat → Int32 :=
  up1 (chS (up1 V 0 1 (C0_firstTime (chU V))) (C0_removeFirst (chU (up1 V 0 1 (C0_firstTime (chU V)))))) 0 4 (chS (up1 V 0 1 (C0_firstTime (chU V))) (C0_removeFirst (chU (up1 V 0 1 (C0_firstTime (chU V))))) 0 4 + nI 1)
def popM (M : Nat → Nat → Int32) (r : Nat) : Nat → Nat → Int32 :=
  let V1 := up1 M 1 4 (M 1 ((319 + (4 * r)) + 0))
  let V2 := up1 V1 1 10 ((V1 1 10) - (nI 1))
  let V3 := setC V2 1 (sh4 (V2 1) (319 + (4 * r)) (319 + (4 * (tN (M 1 10) - 1))))
  up1 V3 1 7 ((V3 1 7) + (nI 1))
theorem R_pop {V M : Nat → Nat → Int32} {A B : List (Nat × Nat)} {x : Nat × Nat} {n p : Nat} (h : Rel V (M 1) (A ++ x :: B) n p) (hl : (A ++ x :: B).length < 64) (hA : ∀ y ∈ A, x.1 < y.1) (hB : ∀ y ∈ B, x.1 ≤ y.1) : Rel (popV V) (popM M A.length 1) (A ++ B) n p ∧ (∀ c, c ≠ 0 → c ≠ 4 → c ≠ 5 → c ≠ 6 → popV V c = V c) ∧ popV V 0 1 = nI x.1 ∧ (∀ i, i ≠ 1 → i ≠ 4 → popV V 0 i = V 0 i) := by
  obtain ⟨f1, f2⟩ := ring_first h.2.1 hA hB
  have el : (A ++ x :: B).length = A.length + B.length + 1 := by simp; omega
  have ft : C0_firstTime (chU V) = nI x.1 := f1
  have hx := h.2.2.1.2 A.length (by omega)
  have ex : (A ++ x :: B).getD A.length (0, 0) = x := by simp [List.getD_eq_getElem?_getD]
  rw [ex] at hx
  obtain ⟨V1, e1⟩ : ∃ z, z = up1 V 0 1 (nI x.1) := ⟨_, rfl⟩
  obtain ⟨M1, g1⟩ : ∃ z, z = up1 M 1 4 (nI x.1) := ⟨_, rfl⟩
  have a1 : Rel V1 (M1 1) (A ++ x :: B) n p := by
    rw [e1, g1, upM]
    exact R_up (c := 0) (i := 1) h (by decide) (by decide)
  have t10 : tN (M1 1 10) = A.length + B.length + 1 := by rw [a1.2.2.1.1, tN_nI (by omega), el]
  have m10 : tN (M 1 10) = A.length + B.length + 1 := by rw [h.2.2.1.1, tN_nI (by omega), el]
  obtain ⟨V2, e2⟩ : ∃ z, z = chS V1 (C0_removeFirst (chU V1)) := ⟨_, rfl⟩
  obtain ⟨M2, g2⟩ : ∃ z, z = up1 M1 1 10 (M1 1 10 - nI 1) := ⟨_, rfl⟩
  obtain ⟨M3, g3⟩ : ∃ z, z = setC M2 1 (sh4 (M2 1) (319 + (4 * A.length)) (319 + (4 * (A.length + B.length)))) := ⟨_, rfl⟩
  have k2 : ∀ j, j ≠ 10 → M2 1 j = M1 1 j := fun j hj => by rw [g2]; exact up1_oi hj
  have k20 : M2 1 10 = nI (A.length + B.length) := by rw [g2, up1_eq, a1.2.2.1.1, el, pk_sub (by omega), Nat.add_sub_cancel]
  have k3 : ∀ j, M3 1 j = if 319 + 4 * A.length ≤ j ∧ j < 319 + 4 * (A.length + B.length) then M2 1 (j + 4) else M2 1 j := fun j => by rw [g3, setC_eq]; rfl
  have k3l : ∀ j, j < 319 → j ≠ 10 → M3 1 j = M1 1 j := fun j a b => by rw [k3, if_neg (by omega), k2 j b]
  have v2 : ∀ c, c ≠ 4 → c ≠ 5 → c ≠ 6 → V2 c = V1 c := fun c a b d => by rw [e2]; exact chS_ne a b d
  have a2 : Rel V2 (M3 1) (A ++ B) n p := by
    obtain ⟨h1, h2, h3, h4, h5, h6, h7⟩ := a1
    refine ⟨E_m (E_V h1 (fun c i hd => by rw [v2 c (by unfold DM at hd; omega) (by unfold DM at hd; omega) (by unfold DM at hd; omega)])) (fun j a b c => k3l j (by omega) c), by rw [e2]; exact ring_remove h2 hA hB, list_erase h3 ?_ ?_, Hld_of h4 (v2 2 (by decide) (by decide) (by decide)) (fun j a b => k3l j (by omega) (by omega)), Rws_of h5 (v2 25 (by decide) (by decide) (by decide)) (v2 26 (by decide) (by decide) (by decide)) (by rw [v2 27 (by decide) (by decide) (by decide)]) (by rw [v2 28 (by decide) (by decide) (by decide)]) (fun j a b => k3l j (by omega) (by omega)), Pnd_of h6 (by rw [v2 7 (by decide) (by decide) (by decide)]) (by rw [v2 0 (by decide) (by decide) (by decide)]) (v2 3 (by decide) (by decide) (by decide)) (k3l 9 (by decide) (by decide)) (fun j a b => k3l j (by omega) (by omega)), Nts_of h7 (v2 8 (by decide) (by decide) (by decide)) (v2 9 (by decide) (by decide) (by decide)) (v2 10 (by decide) (by decide) (by decide)) (fun j a b => k3l j (by omega) (by omega))⟩
    · rw [k3, if_neg (by omega)]; exact k20
    · intro j hj1 hj2
      rw [k3]
      by_cases c : 319 + 4 * A.length ≤ j
      · rw [if_pos ⟨c, hj2⟩, if_pos c, k2 _ (by omega)]
      · rw [if_neg (fun z => c z.1), if_neg c, k2 _ (by omega)]
  have eV : popV V = up1 V2 0 4 (V2 0 4 + nI 1) := by rw [e2, e1, ← ft]; rfl
  have eM : popM M A.length = up1 M3 1 7 (M3 1 7 + nI 1) := by
    have ht : M 1 ((319 + (4 * A.length)) + 0) = nI x.1 := hx.1
    unfold popM
    try dsimp only
    rw [ht, m10, Nat.add_sub_cancel, g3, g2, g1]
  have s7 : M3 1 7 = V2 0 4 := (R_eq a2 (c := 0) (i := 4) (by decide)).symm
  refine ⟨?_, ?_, ?_, ?_⟩
  · rw [eV, eM, upM, s7]
    exact R_up (c := 0) (i := 4) a2 (by decide) (by decide)
  · intro c a b d e
    rw [eV, up1_ne a, v2 c b d e, e1, up1_ne a]
  · rw [eV, up1_oi (by decide), v2 0 (by decide) (by decide) (by decide), e1, up1_eq]
  · intro i a b
    rw [eV, up1_oi b, v2 0 (by decide) (by decide) (by decide), e1, up1_oi a]
/-- what the first change is, on both sides -/
theorem lauS_eq {V : Nat → Nat → Int32} {L : List (Nat × Nat)} {A B : List (Nat × Nat)} {t k w v nS : Nat} (h : ringL V L) (e : L = A ++ (t, sgn_ k w v) :: B) (hA : ∀ y ∈ A, t < y.1) (hB : ∀ y ∈ B, t ≤ y.1) (hw : w < 3) (hv : v < 32) (hk : k ≤ nS) (hn : nS < 7) (h0 : V 0 0 = nI nS) : lauS V = if w = 0 then C2_letRequestArrive (popV V) k (nI v) else if w = 1 then C2_letAnswerArrive (popV V) k (nI v) else up1 (popV V) (11 + k) 5 (nI v) := by
  subst e
  have f2 := (ring_first h hA hB).2
  have hb : sgn_ k w v < 2 ^ 31 := by show ((k * 3 + w) * 32) + v < 2 ^ 31; omega
  have f2 : V 6 (tN (V 4 0)) = nI (sgn_ k w v) := f2
  have d1 : sgn_ k w v / 32 = k * 3 + w := by show (((k * 3 + w) * 32) + v) / 32 = k * 3 + w; omega
  have d2 : (k * 3 + w) / 3 = k := by omega
  have d3 : (k * 3 + w) % 3 = w := by omega
  have d4 : sgn_ k w v % 32 = v := by show (((k * 3 + w) * 32) + v) % 32 = v; omega
  have q1 : C0_firstLink (chU (up1 V 0 1 (C0_firstTime (chU V)))) = nI k := by
    show (V 6 (tN (V 4 0)) / nI 32) / nI 3 = _
    rw [f2, pk_div hb (by decide) (by decide), d1, pk_div (by omega) (by decide) (by decide), d2]
  have q2 : C0_firstWire (chU (up1 V 0 1 (C0_firstTime (chU V)))) = nI w := by
    show (V 6 (tN (V 4 0)) / nI 32) - (V 6 (tN (V 4 0)) / nI 32) / nI 3 * nI 3 = _
    rw [f2, pk_div hb (by decide) (by decide), d1, pk_rem (by omega) (by decide) (by decide), d3]
  have q3 : C0_firstValue (chU (up1 V 0 1 (C0_firstTime (chU V)))) = nI v := by
    show V 6 (tN (V 4 0)) - V 6 (tN (V 4 0)) / nI 32 * nI 32 = _
    rw [f2, pk_rem hb (by decide) (by decide), d4]
  have q0 : ¬ C2_hasLink (popV V) (nI k) = 0 := by
    have z : popV V 0 0 = nI nS := by
      show up1 (chS (up1 V 0 1 _) _) 0 4 _ 0 0 = _
      rw [up1_oi (by decide), chS_ne (by decide) (by decide) (by decide), up1_oi (by decide)]
      exact h0
    unfold C2_hasLink
    rw [if_neg (nI_pos (by omega)), z, if_neg (nI_nlt (by omega) (by omega))]
    decide
  show (if C2_hasLink (popV V) (C0_firstLink (chU (up1 V 0 1 (C0_firstTime (chU V))))) = 0 then popV V
  else if C0_firstWire (chU (up1 V 0 1 (C0_firstTime (chU V)))) = 0 then C2_letRequestArrive (popV V) (tN (C0_firstLink (chU (up1 V 0 1 (C0_firstTime (chU V)))))) (C0_firstValue (chU (up1 V 0 1 (C0_firstTime (chU V)))))
  else if C0_firstWire (chU (up1 V 0 1 (C0_firstTime (chU V)))) = nI 1 then C2_letAnswerArrive (popV V) (tN (C0_firstLink (chU (up1 V 0 1 (C0_firstTime (chU V)))))) (C0_firstValue (chU (up1 V 0 1 (C0_firstTime (chU V)))))
  else up1 (popV V) (11 + tN (C0_firstLink (chU (up1 V 0 1 (C0_firstTime (chU V)))))) 5 (C0_firstValue (chU (up1 V 0 1 (C0_firstTime (chU V)))))) = _
  rw [q1, q2, q3, if_neg q0, tN_nI (by omega)]
  by_cases c0 : w = 0
  · rw [if_pos c0, if_pos ((nI_eq0 (by omega)).mpr c0)]
  · rw [if_neg c0, if_neg (fun z => c0 ((nI_eq0 (by omega)).mp z))]
    by_cases c1 : w = 1
    · rw [if_pos c1, if_pos (by rw [c1])]
    · rw [if_neg c1, if_neg (fun z => c1 ((nI_eq (by omega) (by decide)).mp z))]
theorem arrive_eq {M : Nat → Nat → Int32} {L : List (Nat × Nat)} {r t k w v : Nat} (h : listM (M 1) L) (hr : r < L.length) (e : L.getD r (0, 0) = (t, sgn_ k w v)) (hw : w < 3) (hv : v < 32) (hk : k < 7) : C8_arrive M r = if w = 0 then C8_requestArrives (popM M r) k (nI v) else if w = 1 then C8_answerArrives (popM M r) k (nI v) else C8_setEnd (popM M r) k 5 (nI v) := by
  obtain ⟨d1, d2, d3⟩ := sig_dec (k := k) hw hv
  have hx := h.2 r hr
  rw [e] at hx
  obtain ⟨x0, x1, x2, x3⟩ := hx
  rw [d1] at x1
  rw [d2] at x2
  rw [d3] at x3
  show (if (M 1 ((319 + (4 * r)) + 2)) = 0 then C8_requestArrives (popM M r) (tN (M 1 ((319 + (4 * r)) + 1))) (M 1 ((319 + (4 * r)) + 3))
    else if (M 1 ((319 + (4 * r)) + 2)) = (nI 1) then C8_answerArrives (popM M r) (tN (M 1 ((319 + (4 * r)) + 1))) (M 1 ((319 + (4 * r)) + 3)) else C8_setEnd (popM M r) (tN (M 1 ((319 + (4 * r)) + 1))) 5 (M 1 ((319 + (4 * r)) + 3))) = _
  rw [x1, x2, x3, tN_nI (by omega)]
  by_cases c0 : w = 0
  · rw [if_pos c0, if_pos ((nI_eq0 (by omega)).mpr c0)]
  · rw [if_neg c0, if_neg (fun z => c0 ((nI_eq0 (by omega)).mp z))]
    by_cases c1 : w = 1
    · rw [if_pos c1, if_pos (by rw [c1])]
    · rw [if_neg c1, if_neg (fun z => c1 ((nI_eq (by omega) (by decide)).mp z))]
