/-- the answer 1 at the waiter -/
theorem S_ans1_0 {W M : Nat → Nat → Int32} {L : List (Nat × Nat)} {n p nS t cap : Nat} {ph : Nat → Nat} (h : Rel W (M 1) L n p) (m : Mid W L n p nS t ph cap 0) (hp : ph 0 = 3) (hl : L.length ≤ 49) (htb : t < 2 ^ 30) :
    ∃ L' n' p' ph', Rel (C2_letAnswerArrive W 0 (nI 1)) (C8_answerArrives M 0 (nI 1) 1) L' n' p' ∧ Inv (C2_letAnswerArrive W 0 (nI 1)) L' n' p' nS t ph' cap ∧ mu (C2_letAnswerArrive W 0 (nI 1)) L' nS ph' + 1 = mu W L nS ph ∧ n ≤ n' := by
  obtain ⟨v, ls, lk, sg, pp, cp, k1, f6, f7, hs, d1, d2⟩ := id m
  obtain ⟨dr, a1, a2, a3⟩ := v.2.2.2.2.2.2.1 0 (by decide) 0 (by decide)
  obtain ⟨R, F⟩ := A_ans1_0 h (by omega) v.2.2.2.1 a3 (by omega)
  have f0 : fu W 0 = 0 := sg.2.2.2.1
  have hw : wtN (C2_letAnswerArrive W 0 (nI 1)) = wtN W := wt_same (F 27 0 (by decide)) (F 28 0 (by decide))
  refine ⟨L ++ [(t + dr, sgn_ 0 0 0)], n, p, upN ph 0 4, R, inv_end m (by omega) (fun c i hc _ _ _ _ => F c i hc) (lst_snoc ls (by omega) (by omega) k1 (by decide) (by decide)) (fun k hk => ?_) (fun i hi => fu_same (fun k _ => F 2 k (vw2 k)) hi) (stg1 sg k1 (fun q => absurd q (by decide)) (fun _ q => absurd q (by decide)) (fun q => absurd q (by decide))) ?_ (by rw [hw]; omega) ?_⟩
  · by_cases c : k = 0
    · subst c
      rw [upN_eq]
      refine ⟨by decide, by rw [F _ _ (by decide)]; exact f6, by rw [F _ _ (by decide)]; exact f7, t + dr, ?_, ?_, ?_⟩
      · rw [hs_at (by decide) (by decide), hs]; rfl
      · rw [dt_hs (by decide) (by decide)]; exact d1
      · rw [dt_hs (by decide) (by decide)]
        rw [hp] at d2
        exact dk_mono (show t + 18 ≤ t + dr + 17 by omega) d2
    · rw [upN_ne c]
      exact lk_far (lk k hk c) (F _ _ (by unfold VW; omega)) (F _ _ (by unfold VW; omega)) (hs_ne (by decide) (by decide) (fun z => c z.symm)) (dt_hs (by decide) (by decide))
  · have e : S7 (fun k => pwt (upN ph 0 4 k) (fu W k)) = S7 (fun k => pwt (ph k) (fu W k)) := S7_eq (fun i hi => by
      show pwt (upN ph 0 4 i) _ = pwt (ph i) _
      by_cases c : i = 0
      · rw [c, upN_eq, hp, f0]; rfl
      · rw [upN_ne c])
    rw [e]
  · have e0 : S7 (fun k => (dts k (L ++ [(t + dr, sgn_ 0 0 0)])).length) = S7 (fun k => (dts k L).length) := S7_eq (fun i hi => by show (dts i (L ++ [(t + dr, sgn_ 0 0 0)])).length = _; rw [dt_hs (by decide) (by decide)])
    have e := S7_one (f := fun k => hwt nS k (ph k) (fu W k)) (g := fun k => hwt nS k (upN ph 0 4 k) (fu W k)) (show 0 < 7 by decide) (fun i hi hne => by
      show hwt nS i (upN ph 0 4 i) _ = hwt nS i (ph i) _
      rw [upN_ne hne])
    have e1 : hwt nS 0 (ph 0) (fu W 0) = 3 := by rw [hp]; rfl
    have e2 : hwt nS 0 (upN ph 0 4 0) (fu W 0) = 2 := by rw [upN_eq, f0]; rfl
    rw [e1, e2] at e
    rw [hw, e0]
    omega
/-- the answer 1 behind a stage -/
theorem S_ans1 {W M : Nat → Nat → Int32} {L : List (Nat × Nat)} {n p nS t cap j : Nat} {ph : Nat → Nat} (h : Rel W (M 1) L n p) (m : Mid W L n p nS t ph cap (j + 1)) (hp : ph (j + 1) = 3) (hl : L.length ≤ 49) (htb : t < 2 ^ 30) :
    ∃ L' n' p' ph', Rel (C2_letAnswerArrive W (j + 1) (nI 1)) (C8_answerArrives M (j + 1) (nI 1) 1) L' n' p' ∧ Inv (C2_letAnswerArrive W (j + 1) (nI 1)) L' n' p' nS t ph' cap ∧ mu (C2_letAnswerArrive W (j + 1) (nI 1)) L' nS ph' + 1 = mu W L nS ph ∧ n ≤ n' := by
  have hk7 := mid_k m
  obtain ⟨v, ls, lk, sg, pp, cp, k1, f6, f7, hs, d1, d2⟩ := id m
  have hj7 : j < 7 := by omega
  have n6 := v.2.1
  obtain ⟨dr, a1, a2, a3⟩ := v.2.2.2.2.2.2.1 (j + 1) hk7 0 (by decide)
  obtain ⟨da, b1, b2, b3⟩ := v.2.2.2.2.2.2.1 j hj7 1 (by decide)
  obtain ⟨w, w1, w2⟩ := v.2.2.2.2.2.2.2 j hj7
  obtain ⟨l1, l2, l3, la, l4, l5, l6⟩ := lk j hj7 (by omega)
  have hq : W (11 + j) 7 = nI 0 ∨ W (11 + j) 7 = nI 1 := by
    rw [l3]; split
    · exact Or.inr rfl
    · exact Or.inl rfl
  obtain ⟨T0, T1⟩ := A_ans1 (k := j) (w := w) (t := t) (d := dr) (e := da) h (by omega) (by omega) w1 w2 f6 v.2.2.2.1 a3 b3 (by omega) hq
  have fj : fu W (j + 1) = 1 := (sg.1 j (by omega)).2.1 (by omega) (by omega)
  have hw1 : hwt nS (j + 1) (ph (j + 1)) (fu W (j + 1)) = 3 := by rw [hp]; rfl
  have pw1 : pwt (ph (j + 1)) (fu W (j + 1)) = 0 := by rw [hp]; rfl
  by_cases c2 : ph j = 2
  · -- a request waits: the stage takes at once
    obtain ⟨R, F⟩ := T1 (by rw [l3, if_pos c2])
    have hw : wtN (C2_letAnswerArrive W (j + 1) (nI 1)) = wtN W := wt_same (by rw [F 27 0 (by decide), if_neg (by omega), if_neg (by omega)]) (by rw [F 28 0 (by decide), if_neg (by omega), if_neg (by omega)])
    have hff : ∀ i, i < 7 → fu (C2_letAnswerArrive W (j + 1) (nI 1)) i = fu W i := fun i hi => by
      by_cases c : i = j + 1
      · subst c
        rw [fj]
        exact if_pos ⟨Nat.succ_pos _, by show C2_letAnswerArrive W (j + 1) (nI 1) 2 j ≠ _; rw [F 2 j (vw2 j), if_neg (by omega), if_pos ⟨rfl, rfl⟩]; exact nx_ne5 (by omega)⟩
      · unfold fu
        by_cases c0 : 0 < i
        · rw [F 2 (i - 1) (vw2 _), if_neg (show ¬ (2 = 11 + j ∧ i - 1 = 7) by omega), if_neg (show ¬ (2 = 2 ∧ i - 1 = j) by omega)]
        · rw [if_neg (fun z => c0 z.1), if_neg (fun z => c0 z.1)]
    have sg1 : StgN nS (upN ph (j + 1) 4) (fu W) := stg1 sg k1 (fun q => absurd q (by decide)) (fun _ q => absurd q (by decide)) (fun q => absurd q (by decide))
    have sg2 : StgN nS (upN (upN ph (j + 1) 4) j 3) (fu W) := stg1 sg1 (by omega) (fun q => absurd q (by decide)) (fun _ _ q => by
      obtain ⟨r, hr⟩ : ∃ r, j = r + 1 := ⟨j - 1, by omega⟩
      rw [hr]
      exact (sg.1 r (by omega)).2.1 (by rw [← hr, c2]; decide) (by rw [← hr, c2]; decide)) (fun q => absurd q (by decide))
    have P0 : (upN (upN ph (j + 1) 4) j 3) j = 3 := upN_eq _ _ _
    have P1 : (upN (upN ph (j + 1) 4) j 3) (j + 1) = 4 := by rw [upN_ne (by omega), upN_eq]
    have P2 : ∀ k, k ≠ j → k ≠ j + 1 → (upN (upN ph (j + 1) 4) j 3) k = ph k := fun k x y => by rw [upN_ne x, upN_ne y]
    obtain ⟨ph', hph⟩ : ∃ z, z = upN (upN ph (j + 1) 4) j 3 := ⟨_, rfl⟩
    rw [← hph] at sg2 P0 P1 P2
    refine ⟨_, n, p, ph', R, inv_end m (by omega) (fun c i hc x y _ _ => by rw [F c i hc, if_neg (fun z => by omega), if_neg (fun z => x z.1)]) (lst_snoc (lst_snoc ls (by omega) (by omega) k1 (by decide) (by decide)) (by omega) (by omega) (by omega) (by decide) (by decide)) (fun k hk' => ?_) hff sg2 ?_ (by rw [hw]; omega) ?_⟩
    · by_cases c : k = j
      · subst c
        rw [P0]
        rw [c2] at l4 l6
        refine ⟨by decide, by rw [F _ _ (by unfold VW; omega), if_neg (by omega), if_neg (by omega), l2, c2]; rfl, by rw [F _ _ (by unfold VW; omega), if_pos ⟨rfl, rfl⟩]; rfl, t + da, ?_, ?_, ?_⟩
        · rw [hs_at (by decide) (by decide), hs_ne (by decide) (by decide) (by omega), l4]; rfl
        · rw [dt_hs (by decide) (by decide), dt_hs (by decide) (by decide)]; exact l5
        · rw [dt_hs (by decide) (by decide), dt_hs (by decide) (by decide)]
          exact dk_mono (show t + 19 ≤ t + da + 18 by omega) l6
      · by_cases c3 : k = j + 1
        · subst c3
          rw [P1]
          refine ⟨by decide, by rw [F _ _ (by unfold VW; omega), if_neg (by omega), if_neg (by omega)]; exact f6, by rw [F _ _ (by unfold VW; omega), if_neg (by omega), if_neg (by omega)]; exact f7, t + dr, ?_, ?_, ?_⟩
          · rw [hs_ne (by decide) (by decide) (by omega), hs_at (by decide) (by decide), hs]; rfl
          · rw [dt_hs (by decide) (by decide), dt_hs (by decide) (by decide)]; exact d1
          · rw [dt_hs (by decide) (by decide), dt_hs (by decide) (by decide)]
            rw [hp] at d2
            exact dk_mono (show t + 18 ≤ t + dr + 17 by omega) d2
        · rw [P2 k c c3]
          exact lk_far (lk k hk' c3) (by rw [F _ _ (by unfold VW; omega), if_neg (by omega), if_neg (by omega)]) (by rw [F _ _ (by unfold VW; omega), if_neg (by omega), if_neg (by omega)]) (by rw [hs_ne (by decide) (by decide) (fun z => c z.symm), hs_ne (by decide) (by decide) (fun z => c3 z.symm)]) (by rw [dt_hs (by decide) (by decide), dt_hs (by decide) (by decide)])
    · have e := S7_two (f := fun k => pwt (ph k) (fu W k)) (g := fun k => pwt (ph' k) (fu W k)) hj7 hk7 (by omega) (fun i hi x y => by
        show pwt (ph' i) _ = pwt (ph i) _
        rw [P2 i x y])
      have z1 : pwt (ph j) (fu W j) = 1 := by rw [c2]; rfl
      have z2 : pwt (ph' j) (fu W j) = 0 := by rw [P0]; rfl
      have z3 : pwt (ph' (j + 1)) (fu W (j + 1)) = 1 := by rw [P1, fj]; rfl
      rw [pw1, z1, z2, z3] at e
      omega
    · have e0 : S7 (fun k => (dts k ((L ++ [(t + dr, sgn_ (j + 1) 0 0)]) ++ [(t + da, sgn_ j 1 1)])).length) = S7 (fun k => (dts k L).length) := S7_eq (fun i hi => by show (dts i ((L ++ [(t + dr, sgn_ (j + 1) 0 0)]) ++ [(t + da, sgn_ j 1 1)])).length = _; rw [dt_hs (by decide) (by decide), dt_hs (by decide) (by decide)])
      have e := S7_two (f := fun k => hwt nS k (ph k) (fu W k)) (g := fun k => hwt nS k (ph' k) (fu W k)) hj7 hk7 (by omega) (fun i hi x y => by
        show hwt nS i (ph' i) _ = hwt nS i (ph i) _
        rw [P2 i x y])
      have z1 : hwt nS j (ph j) (fu W j) = 3 + 5 * (nS - j) := by rw [c2]; rfl
      have z2 : hwt nS j (ph' j) (fu W j) = 3 := by rw [P0]; rfl
      have z3 : hwt nS (j + 1) (ph' (j + 1)) (fu W (j + 1)) = 2 + 5 * (nS + 1 - (j + 1)) := by rw [P1, fj]; rfl
      rw [hw1, z1, z2, z3] at e
      rw [hw, e0]
      omega
  · -- none waits: the stage is empty then
    obtain ⟨R, F⟩ := T0 (by rw [l3, if_neg c2])
    have hw : wtN (C2_letAnswerArrive W (j + 1) (nI 1)) = wtN W := wt_same (by rw [F 27 0 (by decide), if_neg (by omega)]) (by rw [F 28 0 (by decide), if_neg (by omega)])
    have hff : ∀ i, i < 7 → fu (C2_letAnswerArrive W (j + 1) (nI 1)) i = upN (fu W) (j + 1) 0 i := fun i hi => by
      by_cases c : i = j + 1
      · subst c
        rw [upN_eq]
        exact if_neg (fun z => z.2 (by show C2_letAnswerArrive W (j + 1) (nI 1) 2 j = _; rw [F 2 j (vw2 j), if_pos ⟨rfl, rfl⟩]))
      · rw [upN_ne c]
        unfold fu
        by_cases c0 : 0 < i
        · rw [F 2 (i - 1) (vw2 _), if_neg (show ¬ (2 = 2 ∧ i - 1 = j) by omega)]
        · rw [if_neg (fun z => c0 z.1), if_neg (fun z => c0 z.1)]
    refine ⟨_, n, p, upN ph (j + 1) 4, R, inv_end m (by omega) (fun c i hc x y _ _ => by rw [F c i hc, if_neg (fun z => x z.1)]) (lst_snoc ls (by omega) (by omega) k1 (by decide) (by decide)) (fun k hk' => ?_) hff (stg4 sg (by omega) c2) ?_ (by rw [hw]; omega) ?_⟩
    · by_cases c3 : k = j + 1
      · subst c3
        rw [upN_eq]
        refine ⟨by decide, by rw [F _ _ (by unfold VW; omega), if_neg (by omega)]; exact f6, by rw [F _ _ (by unfold VW; omega), if_neg (by omega)]; exact f7, t + dr, ?_, ?_, ?_⟩
        · rw [hs_at (by decide) (by decide), hs]; rfl
        · rw [dt_hs (by decide) (by decide)]; exact d1
        · rw [dt_hs (by decide) (by decide)]
          rw [hp] at d2
          exact dk_mono (show t + 18 ≤ t + dr + 17 by omega) d2
      · rw [upN_ne c3]
        exact lk_far (lk k hk' c3) (by rw [F _ _ (by unfold VW; omega), if_neg (by omega)]) (by rw [F _ _ (by unfold VW; omega), if_neg (by omega)]) (hs_ne (by decide) (by decide) (fun z => c3 z.symm)) (dt_hs (by decide) (by decide))
    · have e := S7_one (f := fun k => pwt (ph k) (fu W k)) (g := fun k => pwt (upN ph (j + 1) 4 k) (upN (fu W) (j + 1) 0 k)) hk7 (fun i hi x => by
        show pwt (upN ph (j + 1) 4 i) (upN (fu W) (j + 1) 0 i) = pwt (ph i) _
        rw [upN_ne x, upN_ne x])
      have z3 : pwt (upN ph (j + 1) 4 (j + 1)) (upN (fu W) (j + 1) 0 (j + 1)) = 0 := by rw [upN_eq, upN_eq]; rfl
      rw [pw1, z3] at e
      omega
    · have e0 : S7 (fun k => (dts k (L ++ [(t + dr, sgn_ (j + 1) 0 0)])).length) = S7 (fun k => (dts k L).length) := S7_eq (fun i hi => by show (dts i (L ++ [(t + dr, sgn_ (j + 1) 0 0)])).length = _; rw [dt_hs (by decide) (by decide)])
      have e := S7_one (f := fun k => hwt nS k (ph k) (fu W k)) (g := fun k => hwt nS k (upN ph (j + 1) 4 k) (upN (fu W) (j + 1) 0 k)) hk7 (fun i hi x => by
        show hwt nS i (upN ph (j + 1) 4 i) (upN (fu W) (j + 1) 0 i) = hwt nS i (ph i) _
        rw [upN_ne x, upN_ne x])
      have z3 : hwt nS (j + 1) (upN ph (j + 1) 4 (j + 1)) (upN (fu W) (j + 1) 0 (j + 1)) = 2 := by rw [upN_eq, upN_eq]; rfl
      rw [hw1, z3] at e
      rw [hw, e0]
      omega
/-- the answer 0 behind a stage -/
theorem S_ans0 {W M : Nat → Nat → Int32} {L : List (Nat × Nat)} {n p nS t cap j : Nat} {ph : Nat → Nat} (h : Rel W (M 1) L n p) (m : Mid W L n p nS t ph cap (j + 1)) (hp : ph (j + 1) = 5) (hl : L.length ≤ 49) (htb : t < 2 ^ 30) :
    ∃ L' n' p' ph', Rel (C2_letAnswerArrive W (j + 1) (nI 0)) (C8_answerArrives M (j + 1) (nI 0) 1) L' n' p' ∧ Inv (C2_letAnswerArrive W (j + 1) (nI 0)) L' n' p' nS t ph' cap ∧ mu (C2_letAnswerArrive W (j + 1) (nI 0)) L' nS ph' + 1 = mu W L nS ph ∧ n ≤ n' := by
  have hk7 := mid_k m
  obtain ⟨v, ls, lk, sg, pp, cp, k1, f6, f7, hs, d1, d2⟩ := id m
  have n6 := v.2.1
  obtain ⟨dd, b1, b2, b3⟩ := v.2.2.2.2.2.2.1 (j + 1) hk7 2 (by decide)
  obtain ⟨dr, c1, c2, c3⟩ := v.2.2.2.2.2.2.1 (j + 1) hk7 0 (by decide)
  obtain ⟨le, e1, e2⟩ := v.2.2.2.2.1
  obtain ⟨T0, T1⟩ := A_ans0 (k := j) (t := t) (dd := dd) (dr := dr) (le := le) h (by omega) (by omega) v.2.2.2.1 b3 c3 e2 (by omega)
  rw [hp] at d2
  have d2 : dk (t + 16) 0 (dts (j + 1) L) := d2
  by_cases hv : W 2 j = (-1)
  · obtain ⟨R, F⟩ := T0 hv
    have fj : fu W (j + 1) = 0 := if_neg (fun z => z.2 hv)
    have hw : wtN (C2_letAnswerArrive W (j + 1) (nI 0)) = wtN W := wt_same (by rw [F 27 0 (by decide), if_neg (by omega)]) (by rw [F 28 0 (by decide), if_neg (by omega)])
    refine ⟨L, n, p, upN ph (j + 1) 0, R, inv_end m (by omega) (fun c i hc x y _ _ => by rw [F c i hc, if_neg (fun z => by omega)]) ls (fun k hk' => ?_) (fun i hi => fu_same (fun k _ => by rw [F 2 k (vw2 k), if_neg (by omega)]) hi) (stg1 sg k1 (fun _ => fj) (fun q => absurd q (by decide)) (fun q => absurd q (by decide))) ?_ (by rw [hw]; omega) ?_⟩
    · by_cases c : k = j + 1
      · subst c
        rw [upN_eq]
        exact ⟨by decide, by rw [F _ _ (by unfold VW; omega), if_pos ⟨rfl, rfl⟩]; rfl, by rw [F _ _ (by unfold VW; omega), if_neg (by omega)]; exact f7, 0, hs, d1, d2⟩
      · rw [upN_ne c]
        exact lk_far (lk k hk' c) (by rw [F _ _ (by unfold VW; omega), if_neg (by omega)]) (by rw [F _ _ (by unfold VW; omega), if_neg (by omega)]) rfl rfl
    · have e : S7 (fun k => pwt (upN ph (j + 1) 0 k) (fu W k)) = S7 (fun k => pwt (ph k) (fu W k)) := S7_eq (fun i hi => by
        show pwt (upN ph (j + 1) 0 i) _ = pwt (ph i) _
        by_cases c : i = j + 1
        · rw [c, upN_eq, hp, fj]; rfl
        · rw [upN_ne c])
      rw [e]
    · have e := S7_one (f := fun k => hwt nS k (ph k) (fu W k)) (g := fun k => hwt nS k (upN ph (j + 1) 0 k) (fu W k)) hk7 (fun i hi hne => by
        show hwt nS i (upN ph (j + 1) 0 i) _ = hwt nS i (ph i) _
        rw [upN_ne hne])
      have z1 : hwt nS (j + 1) (ph (j + 1)) (fu W (j + 1)) = 1 := by rw [hp, fj]; rfl
      have z2 : hwt nS (j + 1) (upN ph (j + 1) 0 (j + 1)) (fu W (j + 1)) = 0 := by rw [upN_eq]; rfl
      rw [z1, z2] at e
      rw [hw]
      omega
  · obtain ⟨w, w1, R, F⟩ := T1 hv
    have fj : fu W (j + 1) = 1 := if_pos ⟨Nat.succ_pos _, hv⟩
    have F2 : ∀ c i, VW c i → ¬ (c = 11 + (j + 1) ∧ i = 6) → C2_letAnswerArrive W (j + 1) (nI 0) c i = W c i := fun c i hc hn => by rw [F c i hc, if_neg hn]
    have hw : wtN (C2_letAnswerArrive W (j + 1) (nI 0)) = wtN W := wt_same (F2 27 0 (by decide) (by omega)) (F2 28 0 (by decide) (by omega))
    refine ⟨_, n, p, upN ph (j + 1) 1, R, inv_end m (by omega) (fun c i hc x y _ _ => F2 c i hc (by omega)) (lst_snoc (lst_snoc ls (by omega) (by omega) k1 (by decide) w1) (by omega) (by omega) k1 (by decide) (by decide)) (fun k hk' => ?_) (fun i hi => fu_same (fun k _ => F2 2 k (vw2 k) (by omega)) hi) (stg1 sg k1 (fun q => absurd q (by decide)) (fun _ _ _ => fj) (fun q => absurd q (by decide))) ?_ (by rw [hw]; omega) ?_⟩
    · by_cases c : k = j + 1
      · subst c
        rw [upN_eq]
        refine ⟨by decide, by rw [F _ _ (by unfold VW; omega), if_pos ⟨rfl, rfl⟩]; rfl, by rw [F2 _ _ (by unfold VW; omega) (by omega)]; exact f7, t + dr + le, ?_, ?_, ?_⟩
        · rw [hs_at (by decide) (by decide), hs_da w1, hs]; rfl
        · rw [dt_hs (by decide) (by decide), dt_at w1]
          exact ⟨by omega, dk_shift (show t + 16 + 4 ≤ t + 20 by omega) d2⟩
        · rw [dt_hs (by decide) (by decide), dt_at w1]
          exact ⟨show t + dd + 4 * 0 ≤ t + dr + le + 19 by omega, dk_shift (show t + 16 + 4 ≤ t + dr + le + 19 by omega) d2⟩
      · rw [upN_ne c]
        exact lk_far (lk k hk' c) (F2 _ _ (by unfold VW; omega) (by omega)) (F2 _ _ (by unfold VW; omega) (by omega)) (by rw [hs_ne (by decide) (by decide) (fun z => c z.symm), hs_da w1]) (by rw [dt_hs (by decide) (by decide), dt_ne (by decide) w1 (fun z => c z.symm)])
    · have e : S7 (fun k => pwt (upN ph (j + 1) 1 k) (fu W k)) = S7 (fun k => pwt (ph k) (fu W k)) := S7_eq (fun i hi => by
        show pwt (upN ph (j + 1) 1 i) _ = pwt (ph i) _
        by_cases c : i = j + 1
        · rw [c, upN_eq, hp, fj]; rfl
        · rw [upN_ne c])
      rw [e]
    · have e0 := S7_one (f := fun k => (dts k L).length) (g := fun k => (dts k ((L ++ [(t + dd, sgn_ (j + 1) 2 w)]) ++ [(t + dr + le, sgn_ (j + 1) 0 1)])).length) hk7 (fun i hi hne => by
        show (dts i ((L ++ [(t + dd, sgn_ (j + 1) 2 w)]) ++ [(t + dr + le, sgn_ (j + 1) 0 1)])).length = _
        rw [dt_hs (by decide) (by decide), dt_ne (by decide) w1 (fun z => hne z.symm)])
      have e0a : (dts (j + 1) ((L ++ [(t + dd, sgn_ (j + 1) 2 w)]) ++ [(t + dr + le, sgn_ (j + 1) 0 1)])).length = (dts (j + 1) L).length + 1 := by
        rw [dt_hs (by decide) (by decide), dt_at w1]; rfl
      have e := S7_one (f := fun k => hwt nS k (ph k) (fu W k)) (g := fun k => hwt nS k (upN ph (j + 1) 1 k) (fu W k)) hk7 (fun i hi hne => by
        show hwt nS i (upN ph (j + 1) 1 i) _ = hwt nS i (ph i) _
        rw [upN_ne hne])
      have z1 : hwt nS (j + 1) (ph (j + 1)) (fu W (j + 1)) = 1 + 5 * (nS + 1 - (j + 1)) := by rw [hp, fj]; rfl
      have z2 : hwt nS (j + 1) (upN ph (j + 1) 1 (j + 1)) (fu W (j + 1)) = 4 + 5 * (nS - (j + 1)) := by rw [upN_eq]; rfl
      rw [z1, z2] at e
      rw [e0a] at e0
      rw [hw]
      omega
