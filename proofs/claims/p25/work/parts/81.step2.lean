theorem lk_far {V W : Nat → Nat → Int32} {L L' : List (Nat × Nat)} {t k p : Nat} (h : LkI W L t k p) (h6 : V (11 + k) 6 = W (11 + k) 6) (h7 : V (11 + k) 7 = W (11 + k) 7) (hh : hsL k L' = hsL k L) (hd : dts k L' = dts k L) : LkI V L' t k p :=
  LkI_frame h h6 h7 hh (by rw [hd]; exact List.Sublist.refl _) (Nat.le_refl t)
/-- a word is noted -/
theorem S_note {W M : Nat → Nat → Int32} {L : List (Nat × Nat)} {n p nS t cap : Nat} {ph : Nat → Nat} (h : Rel W (M 1) L n p) (m : Mid W L n p nS t ph cap nS) (hp : ph nS = 1) (hl : L.length ≤ 49) (htb : t < 2 ^ 30) :
    ∃ L' n' p' ph', Rel (C2_letRequestArrive W nS (nI 1)) (C8_requestArrives M nS (nI 1) 1) L' n' p' ∧ Inv (C2_letRequestArrive W nS (nI 1)) L' n' p' nS t ph' cap ∧ mu (C2_letRequestArrive W nS (nI 1)) L' nS ph' + 1 = mu W L nS ph ∧ n ≤ n' := by
  have hk7 := mid_k m
  obtain ⟨v, ls, lk, sg, pp, cp, k1, f6, f7, hs, d1, d2⟩ := id m
  obtain ⟨da, a1, a2, a3⟩ := v.2.2.2.2.2.2.1 nS hk7 1 (by decide)
  obtain ⟨th, b1, b2⟩ := v.2.2.2.2.2.1
  have hpw : pwt (ph nS) (fu W nS) = 1 := by rw [hp]; rfl
  have p0 : 0 < p := by
    have := S7_mem (f := fun k => pwt (ph k) (fu W k)) hk7
    have e : (fun k => pwt (ph k) (fu W k)) nS = 1 := hpw
    omega
  obtain ⟨R, F⟩ := A_note h (by omega) hk7 p0 v.2.2.1 v.2.2.2.1 a3 b2 (by omega)
  have hw : wtN (C2_letRequestArrive W nS (nI 1)) = wtN W := wt_same (F 27 0 (by decide)) (F 28 0 (by decide))
  refine ⟨L ++ [(t + da + th, sgn_ nS 1 1)], n + 1, p - 1, upN ph nS 3, R, inv_end m (by omega) (fun c i hc _ _ _ _ => F c i hc) (lst_snoc ls (by omega) (by omega) k1 (by decide) (by decide)) (fun k hk => ?_) (fun i hi => fu_same (fun k _ => F 2 k (vw2 k)) hi) (stg1 sg k1 (fun q => absurd q (by decide)) (fun _ _ q => ?_) (fun q => absurd q (by decide))) ?_ (by rw [hw]; omega) ?_⟩
  · by_cases c : k = nS
    · subst c
      rw [upN_eq]
      refine ⟨by decide, by rw [F _ _ (by unfold VW; omega)]; exact f6, by rw [F _ _ (by unfold VW; omega)]; exact f7, t + da + th, ?_, ?_, ?_⟩
      · rw [hs_at (by decide) (by decide), hs]; rfl
      · rw [dt_hs (by decide) (by decide)]; exact d1
      · rw [dt_hs (by decide) (by decide)]
        rw [hp] at d2
        exact dk_mono (show t + 19 ≤ t + da + th + 18 by omega) d2
    · rw [upN_ne c]
      exact lk_far (lk k hk c) (F _ _ (by unfold VW; omega)) (F _ _ (by unfold VW; omega)) (hs_ne (by decide) (by decide) (fun z => c z.symm)) (dt_ne (by decide) (by decide) (fun z => c z.symm))
  · obtain ⟨r, hr⟩ : ∃ r, nS = r + 1 := ⟨nS - 1, by omega⟩
    rw [hr]
    exact (sg.1 r (by omega)).2.1 (by rw [← hr, hp]; decide) (by rw [← hr, hp]; decide)
  · have e := S7_one (f := fun k => pwt (ph k) (fu W k)) (g := fun k => pwt (upN ph nS 3 k) (fu W k)) hk7 (fun i hi hne => by
      show pwt (upN ph nS 3 i) _ = pwt (ph i) _
      rw [upN_ne hne])
    have e2 : pwt (upN ph nS 3 nS) (fu W nS) = 0 := by rw [upN_eq]; rfl
    rw [hpw, e2] at e
    omega
  · have e0 : S7 (fun k => (dts k (L ++ [(t + da + th, sgn_ nS 1 1)])).length) = S7 (fun k => (dts k L).length) := S7_eq (fun i hi => by show (dts i (L ++ [(t + da + th, sgn_ nS 1 1)])).length = _; rw [dt_hs (by decide) (by decide)])
    have e := S7_one (f := fun k => hwt nS k (ph k) (fu W k)) (g := fun k => hwt nS k (upN ph nS 3 k) (fu W k)) hk7 (fun i hi hne => by
      show hwt nS i (upN ph nS 3 i) _ = hwt nS i (ph i) _
      rw [upN_ne hne])
    have e1 : hwt nS nS (ph nS) (fu W nS) = 4 + 5 * (nS - nS) := by rw [hp]; rfl
    have e2 : hwt nS nS (upN ph nS 3 nS) (fu W nS) = 3 := by rw [upN_eq]; rfl
    rw [e1, e2] at e
    rw [hw, e0]
    omega
/-- a request waits -/
theorem S_wait {W M : Nat → Nat → Int32} {L : List (Nat × Nat)} {n p nS t cap k0 : Nat} {ph : Nat → Nat} (h : Rel W (M 1) L n p) (m : Mid W L n p nS t ph cap k0) (hp : ph k0 = 1) (hk : k0 < nS) (hf : fu W (k0 + 1) = 1) :
    ∃ L' n' p' ph', Rel (C2_letRequestArrive W k0 (nI 1)) (C8_requestArrives M k0 (nI 1) 1) L' n' p' ∧ Inv (C2_letRequestArrive W k0 (nI 1)) L' n' p' nS t ph' cap ∧ mu (C2_letRequestArrive W k0 (nI 1)) L' nS ph' + 1 = mu W L nS ph ∧ n ≤ n' := by
  have hk7 := mid_k m
  obtain ⟨v, ls, lk, sg, pp, cp, k1, f6, f7, hs, d1, d2⟩ := id m
  have hfv : W 2 k0 ≠ (-1) := fun z => by
    have : fu W (k0 + 1) = 0 := if_neg (fun q => q.2 z)
    omega
  obtain ⟨R, F⟩ := A_wait h hk (by have := v.2.1; omega) v.2.2.1 hfv
  have F2 : ∀ c i, VW c i → ¬ (11 ≤ c ∧ c < 18 ∧ i = 7) → C2_letRequestArrive W k0 (nI 1) c i = W c i := fun c i hc hn => by rw [F c i hc, if_neg (fun z => by omega)]
  have hw : wtN (C2_letRequestArrive W k0 (nI 1)) = wtN W := wt_same (F2 27 0 (by decide) (by omega)) (F2 28 0 (by decide) (by omega))
  refine ⟨L, n, p, upN ph k0 2, R, inv_end m (by omega) (fun c i hc _ hn _ _ => F2 c i hc (by omega)) ls (fun k hk => ?_) (fun i hi => fu_same (fun k _ => F2 2 k (vw2 k) (by omega)) hi) (stg1 sg k1 (fun q => absurd q (by decide)) (fun _ _ q => ?_) (fun _ => ⟨hk, hf⟩)) ?_ (by rw [hw]; omega) ?_⟩
  · by_cases c : k = k0
    · subst c
      rw [upN_eq]
      refine ⟨by decide, by rw [F2 _ _ (by unfold VW; omega) (by omega)]; exact f6, by rw [F _ _ (by unfold VW; omega), if_pos ⟨rfl, rfl⟩]; rfl, 0, ?_, d1, ?_⟩
      · rw [hs]; rfl
      · rw [hp] at d2
        exact d2
    · rw [upN_ne c]
      exact lk_far (lk k hk c) (F2 _ _ (by unfold VW; omega) (by omega)) (by rw [F _ _ (by unfold VW; omega), if_neg (by omega)]) rfl rfl
  · obtain ⟨r, hr⟩ : ∃ r, k0 = r + 1 := ⟨k0 - 1, by omega⟩
    rw [hr]
    exact (sg.1 r (by omega)).2.1 (by rw [← hr, hp]; decide) (by rw [← hr, hp]; decide)
  · have e : S7 (fun k => pwt (upN ph k0 2 k) (fu W k)) = S7 (fun k => pwt (ph k) (fu W k)) := S7_eq (fun i hi => by
      show pwt (upN ph k0 2 i) _ = pwt (ph i) _
      by_cases c : i = k0
      · rw [c, upN_eq, hp]; rfl
      · rw [upN_ne c])
    rw [e]
  · have e := S7_one (f := fun k => hwt nS k (ph k) (fu W k)) (g := fun k => hwt nS k (upN ph k0 2 k) (fu W k)) hk7 (fun i hi hne => by
      show hwt nS i (upN ph k0 2 i) _ = hwt nS i (ph i) _
      rw [upN_ne hne])
    have e1 : hwt nS k0 (ph k0) (fu W k0) = 4 + 5 * (nS - k0) := by rw [hp]; rfl
    have e2 : hwt nS k0 (upN ph k0 2 k0) (fu W k0) = 3 + 5 * (nS - k0) := by rw [upN_eq]; rfl
    rw [e1, e2] at e
    rw [hw]
    omega
/-- a stage takes a word; it offers it if the next link is at rest -/
theorem S_take {W M : Nat → Nat → Int32} {L : List (Nat × Nat)} {n p nS t cap k0 : Nat} {ph : Nat → Nat} (h : Rel W (M 1) L n p) (m : Mid W L n p nS t ph cap k0) (hp : ph k0 = 1) (hk : k0 < nS) (hf : fu W (k0 + 1) = 0) (hl : L.length ≤ 49) (htb : t < 2 ^ 30) :
    ∃ L' n' p' ph', Rel (C2_letRequestArrive W k0 (nI 1)) (C8_requestArrives M k0 (nI 1) 1) L' n' p' ∧ Inv (C2_letRequestArrive W k0 (nI 1)) L' n' p' nS t ph' cap ∧ mu (C2_letRequestArrive W k0 (nI 1)) L' nS ph' + 1 = mu W L nS ph ∧ n ≤ n' := by
  have hk7 := mid_k m
  obtain ⟨v, ls, lk, sg, pp, cp, k1, f6, f7, hs, d1, d2⟩ := id m
  have n6 := v.2.1
  have hk17 : k0 + 1 < 7 := by omega
  have hfv : W 2 k0 = (-1) := Decidable.byContradiction (fun z => by
    have : fu W (k0 + 1) = 1 := if_pos ⟨Nat.succ_pos _, z⟩
    omega)
  obtain ⟨da, a1, a2, a3⟩ := v.2.2.2.2.2.2.1 k0 hk7 1 (by decide)
  obtain ⟨dd, b1, b2, b3⟩ := v.2.2.2.2.2.2.1 (k0 + 1) hk17 2 (by decide)
  obtain ⟨dr, c1, c2, c3⟩ := v.2.2.2.2.2.2.1 (k0 + 1) hk17 0 (by decide)
  obtain ⟨le, e1, e2⟩ := v.2.2.2.2.1
  obtain ⟨w, w1, w2⟩ := v.2.2.2.2.2.2.2 k0 hk7
  obtain ⟨l1, l2, l3, la, l4, l5, l6⟩ := lk (k0 + 1) hk17 (by omega)
  obtain ⟨q1, q2, q3⟩ := sg.1 k0 hk
  have hq : ph (k0 + 1) = 0 ∨ ph (k0 + 1) = 4 ∨ ph (k0 + 1) = 5 := by
    rcases (show ph (k0 + 1) = 0 ∨ (1 ≤ ph (k0 + 1) ∧ ph (k0 + 1) ≤ 3) ∨ ph (k0 + 1) = 4 ∨ ph (k0 + 1) = 5 by omega) with q | q | q
    · exact Or.inl q
    · have := q2 q.1 q.2; omega
    · exact Or.inr q
  have hr : W (11 + (k0 + 1)) 6 = nI 0 ∨ W (11 + (k0 + 1)) 6 = nI 1 := by
    rw [l2]; split
    · exact Or.inr rfl
    · exact Or.inl rfl
  obtain ⟨T0, T1⟩ := A_take (nS := nS) (w := w) (t := t) (d := da) (dd := dd) (dr := dr) (le := le) h (by omega) hk (by omega) w1 v.2.2.1 hfv f7 w2 v.2.2.2.1 a3 b3 c3 e2 (by omega) hr
  have g1 : 0 < k0 → fu W k0 = 1 := fun q => by
    obtain ⟨r, hr⟩ : ∃ r, k0 = r + 1 := ⟨k0 - 1, by omega⟩
    rw [hr]
    exact (sg.1 r (by omega)).2.1 (by rw [← hr, hp]; decide) (by rw [← hr, hp]; decide)
  have hff : ∀ V : Nat → Nat → Int32, (∀ j, j < 6 → V 2 j = if j = k0 then nI w else W 2 j) → ∀ i, i < 7 → fu V i = upN (fu W) (k0 + 1) 1 i := fun V hV i hi => by
    by_cases c : i = k0 + 1
    · subst c
      rw [upN_eq]
      exact if_pos ⟨Nat.succ_pos _, by show V 2 k0 ≠ _; rw [hV k0 (by omega), if_pos rfl]; exact nx_ne5 (by omega)⟩
    · rw [upN_ne c]
      unfold fu
      by_cases c0 : 0 < i
      · rw [hV (i - 1) (by omega), if_neg (show ¬ i - 1 = k0 by omega)]
      · rw [if_neg (fun z => c0 z.1), if_neg (fun z => c0 z.1)]
  have hw2 : hwt nS k0 (ph k0) (fu W k0) = 4 + 5 * (nS - k0) := by rw [hp]; rfl
  have pw2 : pwt (ph k0) (fu W k0) = 1 := by rw [hp]; rfl
  rcases hq with hq | hq
  · -- the next link is at rest: the word is offered
    obtain ⟨R, F⟩ := T1 (by rw [l2, if_pos hq])
    have hw : wtN (C2_letRequestArrive W k0 (nI 1)) = wtN W := wt_same (by rw [F 27 0 (by decide), if_neg (by omega), if_neg (by omega)]) (by rw [F 28 0 (by decide), if_neg (by omega), if_neg (by omega)])
    have sg1 : StgN nS (upN ph (k0 + 1) 4) (fu W) := stg1 sg (by omega) (fun q => absurd q (by decide)) (fun _ q => absurd q (by decide)) (fun q => absurd q (by decide))
    have sg2 := stg2 sg1 hk (by omega) g1 (by rw [upN_eq]; decide)
    have sg3 : StgN nS (upN (upN (upN ph (k0 + 1) 4) k0 3) (k0 + 1) 1) (upN (fu W) (k0 + 1) 1) := stg1 sg2 (by omega) (fun q => absurd q (by decide)) (fun _ _ _ => upN_eq _ _ _) (fun q => absurd q (by decide))
    have P0 : (upN (upN (upN ph (k0 + 1) 4) k0 3) (k0 + 1) 1) k0 = 3 := by rw [upN_ne (by omega), upN_eq]
    have P1 : (upN (upN (upN ph (k0 + 1) 4) k0 3) (k0 + 1) 1) (k0 + 1) = 1 := upN_eq _ _ _
    have P2 : ∀ k, k ≠ k0 → k ≠ k0 + 1 → (upN (upN (upN ph (k0 + 1) 4) k0 3) (k0 + 1) 1) k = ph k := fun k x y => by rw [upN_ne y, upN_ne x, upN_ne y]
    obtain ⟨ph', hph⟩ : ∃ z, z = upN (upN (upN ph (k0 + 1) 4) k0 3) (k0 + 1) 1 := ⟨_, rfl⟩
    rw [← hph] at sg3 P0 P1 P2
    have hF2 : ∀ j, j < 6 → C2_letRequestArrive W k0 (nI 1) 2 j = if j = k0 then nI w else W 2 j := fun j _ => by
      rw [F 2 j (vw2 j), if_neg (by omega)]
      by_cases c : j = k0
      · rw [if_pos ⟨rfl, c⟩, if_pos c]
      · rw [if_neg (fun z => c z.2), if_neg c]
    refine ⟨_, n, p, ph', R, inv_end m (by omega) (fun c i hc x y _ _ => by rw [F c i hc, if_neg (fun z => by omega), if_neg (fun z => x z.1)]) (lst_snoc (lst_snoc (lst_snoc ls (by omega) (by omega) k1 (by decide) (by decide)) (by omega) (by omega) (by omega) (by decide) w1) (by omega) (by omega) (by omega) (by decide) (by decide)) (fun k hk' => ?_) (hff _ hF2) sg3 ?_ (by rw [hw]; omega) ?_⟩
    · by_cases c : k = k0
      · subst c
        rw [P0]
        refine ⟨by decide, by rw [F _ _ (by unfold VW; omega), if_neg (by omega), if_neg (by omega)]; exact f6, by rw [F _ _ (by unfold VW; omega), if_neg (by omega), if_neg (by omega)]; exact f7, t + da, ?_, ?_, ?_⟩
        · rw [hs_ne (by decide) (by decide) (by omega), hs_da w1, hs_at (by decide) (by decide), hs]; rfl
        · rw [dt_hs (by decide) (by decide), dt_ne (by decide) w1 (by omega), dt_hs (by decide) (by decide)]; exact d1
        · rw [dt_hs (by decide) (by decide), dt_ne (by decide) w1 (by omega), dt_hs (by decide) (by decide)]
          rw [hp] at d2
          exact dk_mono (show t + 19 ≤ t + da + 18 by omega) d2
      · by_cases c2 : k = k0 + 1
        · subst c2
          rw [P1]
          rw [hq] at l4 l6
          refine ⟨by decide, by rw [F _ _ (by unfold VW; omega), if_pos ⟨rfl, rfl⟩]; rfl, by rw [F _ _ (by unfold VW; omega), if_neg (by omega), if_neg (by omega), l3, hq]; rfl, t + dr + le, ?_, ?_, ?_⟩
          · rw [hs_at (by decide) (by decide), hs_da w1, hs_ne (by decide) (by decide) (by omega), l4]; rfl
          · rw [dt_hs (by decide) (by decide), dt_at w1, dt_hs (by decide) (by decide)]
            exact ⟨by omega, dk_shift (show t + 16 + 4 ≤ t + 20 by omega) l6⟩
          · rw [dt_hs (by decide) (by decide), dt_at w1, dt_hs (by decide) (by decide)]
            exact ⟨show t + dd + 4 * 0 ≤ t + dr + le + 19 by omega, dk_shift (show t + 16 + 4 ≤ t + dr + le + 19 by omega) l6⟩
        · rw [P2 k c c2]
          exact lk_far (lk k hk' c) (by rw [F _ _ (by unfold VW; omega), if_neg (by omega), if_neg (by omega)]) (by rw [F _ _ (by unfold VW; omega), if_neg (by omega), if_neg (by omega)]) (by rw [hs_ne (by decide) (by decide) (fun z => c2 z.symm), hs_da w1, hs_ne (by decide) (by decide) (fun z => c z.symm)]) (by rw [dt_hs (by decide) (by decide), dt_ne (by decide) w1 (fun z => c2 z.symm), dt_hs (by decide) (by decide)])
    · have e := S7_two (f := fun k => pwt (ph k) (fu W k)) (g := fun k => pwt (ph' k) (upN (fu W) (k0 + 1) 1 k)) hk7 hk17 (by omega) (fun i hi x y => by
        show pwt (ph' i) (upN (fu W) (k0 + 1) 1 i) = pwt (ph i) _
        rw [P2 i x y, upN_ne y])
      have z1 : pwt (ph (k0 + 1)) (fu W (k0 + 1)) = 0 := by rw [hq]; rfl
      have z2 : pwt (ph' k0) (upN (fu W) (k0 + 1) 1 k0) = 0 := by rw [P0]; rfl
      have z3 : pwt (ph' (k0 + 1)) (upN (fu W) (k0 + 1) 1 (k0 + 1)) = 1 := by rw [P1]; rfl
      rw [pw2, z1, z2, z3] at e
      omega
    · have e0 := S7_one (f := fun k => (dts k L).length) (g := fun k => (dts k (((L ++ [(t + da, sgn_ k0 1 1)]) ++ [(t + dd, sgn_ (k0 + 1) 2 w)]) ++ [(t + dr + le, sgn_ (k0 + 1) 0 1)])).length) hk17 (fun i hi hne => by
        show (dts i (((L ++ [(t + da, sgn_ k0 1 1)]) ++ [(t + dd, sgn_ (k0 + 1) 2 w)]) ++ [(t + dr + le, sgn_ (k0 + 1) 0 1)])).length = _
        rw [dt_hs (by decide) (by decide), dt_ne (by decide) w1 (fun z => hne z.symm), dt_hs (by decide) (by decide)])
      have e0a : (dts (k0 + 1) (((L ++ [(t + da, sgn_ k0 1 1)]) ++ [(t + dd, sgn_ (k0 + 1) 2 w)]) ++ [(t + dr + le, sgn_ (k0 + 1) 0 1)])).length = (dts (k0 + 1) L).length + 1 := by
        rw [dt_hs (by decide) (by decide), dt_at w1, dt_hs (by decide) (by decide)]; rfl
      have e := S7_two (f := fun k => hwt nS k (ph k) (fu W k)) (g := fun k => hwt nS k (ph' k) (upN (fu W) (k0 + 1) 1 k)) hk7 hk17 (by omega) (fun i hi x y => by
        show hwt nS i (ph' i) (upN (fu W) (k0 + 1) 1 i) = hwt nS i (ph i) _
        rw [P2 i x y, upN_ne y])
      have z1 : hwt nS (k0 + 1) (ph (k0 + 1)) (fu W (k0 + 1)) = 0 := by rw [hq]; rfl
      have z2 : hwt nS k0 (ph' k0) (upN (fu W) (k0 + 1) 1 k0) = 3 := by rw [P0]; rfl
      have z3 : hwt nS (k0 + 1) (ph' (k0 + 1)) (upN (fu W) (k0 + 1) 1 (k0 + 1)) = 4 + 5 * (nS - (k0 + 1)) := by rw [P1]; rfl
      rw [hw2, z1, z2, z3] at e
      rw [e0a] at e0
      rw [hw]
      omega
  · -- it is not
    have hq0 : ph (k0 + 1) ≠ 0 := by omega
    obtain ⟨R, F⟩ := T0 (by rw [l2, if_neg hq0])
    have hw : wtN (C2_letRequestArrive W k0 (nI 1)) = wtN W := wt_same (by rw [F 27 0 (by decide), if_neg (by omega)]) (by rw [F 28 0 (by decide), if_neg (by omega)])
    refine ⟨_, n, p, upN ph k0 3, R, inv_end m (by omega) (fun c i hc x _ _ _ => by rw [F c i hc, if_neg (fun z => x z.1)]) (lst_snoc ls (by omega) (by omega) k1 (by decide) (by decide)) (fun k hk' => ?_) (hff _ (fun j hj => by
      rw [F 2 j (vw2 j)]
      by_cases c : j = k0
      · rw [if_pos ⟨rfl, c⟩, if_pos c]
      · rw [if_neg (fun z => c z.2), if_neg c])) (stg2 sg hk (by omega) g1 hq0) ?_ (by rw [hw]; omega) ?_⟩
    · by_cases c : k = k0
      · subst c
        rw [upN_eq]
        refine ⟨by decide, by rw [F _ _ (by unfold VW; omega), if_neg (by omega)]; exact f6, by rw [F _ _ (by unfold VW; omega), if_neg (by omega)]; exact f7, t + da, ?_, ?_, ?_⟩
        · rw [hs_at (by decide) (by decide), hs]; rfl
        · rw [dt_hs (by decide) (by decide)]; exact d1
        · rw [dt_hs (by decide) (by decide)]
          rw [hp] at d2
          exact dk_mono (show t + 19 ≤ t + da + 18 by omega) d2
      · rw [upN_ne c]
        exact lk_far (lk k hk' c) (by rw [F _ _ (by unfold VW; omega), if_neg (by omega)]) (by rw [F _ _ (by unfold VW; omega), if_neg (by omega)]) (hs_ne (by decide) (by decide) (fun z => c z.symm)) (dt_hs (by decide) (by decide))
    · have e := S7_two (f := fun k => pwt (ph k) (fu W k)) (g := fun k => pwt (upN ph k0 3 k) (upN (fu W) (k0 + 1) 1 k)) hk7 hk17 (by omega) (fun i hi x y => by
        show pwt (upN ph k0 3 i) (upN (fu W) (k0 + 1) 1 i) = pwt (ph i) _
        rw [upN_ne x, upN_ne y])
      have z1 : pwt (ph (k0 + 1)) (fu W (k0 + 1)) = 0 := by rw [hf]; rcases hq with q | q <;> rw [q] <;> rfl
      have z2 : pwt (upN ph k0 3 k0) (upN (fu W) (k0 + 1) 1 k0) = 0 := by rw [upN_eq]; rfl
      have z3 : pwt (upN ph k0 3 (k0 + 1)) (upN (fu W) (k0 + 1) 1 (k0 + 1)) = 1 := by rw [upN_ne (by omega), upN_eq]; rcases hq with q | q <;> rw [q] <;> rfl
      rw [pw2, z1, z2, z3] at e
      omega
    · have e0 : S7 (fun k => (dts k (L ++ [(t + da, sgn_ k0 1 1)])).length) = S7 (fun k => (dts k L).length) := S7_eq (fun i hi => by show (dts i (L ++ [(t + da, sgn_ k0 1 1)])).length = _; rw [dt_hs (by decide) (by decide)])
      have e := S7_two (f := fun k => hwt nS k (ph k) (fu W k)) (g := fun k => hwt nS k (upN ph k0 3 k) (upN (fu W) (k0 + 1) 1 k)) hk7 hk17 (by omega) (fun i hi x y => by
        show hwt nS i (upN ph k0 3 i) (upN (fu W) (k0 + 1) 1 i) = hwt nS i (ph i) _
        rw [upN_ne x, upN_ne y])
      have z2 : hwt nS k0 (upN ph k0 3 k0) (upN (fu W) (k0 + 1) 1 k0) = 3 := by rw [upN_eq]; rfl
      have z3 : hwt nS (k0 + 1) (upN ph k0 3 (k0 + 1)) (upN (fu W) (k0 + 1) 1 (k0 + 1)) = hwt nS (k0 + 1) (ph (k0 + 1)) (fu W (k0 + 1)) + 5 * (nS - k0) := by
        rw [upN_ne (show k0 + 1 ≠ k0 by omega), upN_eq, hf, show nS - k0 = nS + 1 - (k0 + 1) by omega]
        rcases hq with q | q
        · rw [q]; show 2 + 5 * (nS + 1 - (k0 + 1)) = 2 + 0 + _; omega
        · rw [q]; show 1 + 5 * (nS + 1 - (k0 + 1)) = 1 + 0 + _; omega
      rw [hw2, z2, z3] at e
      rw [hw, e0]
      omega
