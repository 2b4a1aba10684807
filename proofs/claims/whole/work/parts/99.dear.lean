/-! dearest on both sides -/
theorem G_dear {c : Nat} {V W M : Nat → Nat → Int32} {nS t : Nat} (g : Gd c V (M 1)) (hc : c < 2 ^ 29) {k w : Nat} (eS : V 0 0 = nI nS) (et : V 0 1 = nI t) (hS : nS < 2 ^ 31) (ht31 : t < 2 ^ 31) (hk : k ≤ nS) (hw : w < 3) (hd : ¬ V (18 + k) w ≤ nI 1) : M 1 (13 + (3 * k + w)) = V (18 + k) w ∧ setOK 5000 (drT M (3 * k + w)) ∧ lauOK (nI 2000000000) 1000000 (up1 (C2_copyFrom W V) (18 + k) w (C2_copyFrom W V (18 + k) w - nI 1)) ∧ ∃ t', t ≤ t' ∧ t' < 2 ^ 30 ∧ (C2_letArriveUpTo (up1 (C2_copyFrom W V) (18 + k) w (C2_copyFrom W V (18 + k) w - nI 1)) (nI 2000000000)) 0 1 = nI t' ∧ (C8_settle (drT M (3 * k + w))).1 = nI (t' - t) := by
  have gt : Gd c (C2_copyFrom W V) (C8_putAside M 1) := by
    rw [(pa_at M).1 1 (by decide)]
    exact Gd_copy g (fun _ _ => rfl)
  obtain ⟨L, n, p, nS', t', ph, r, i, ht, o⟩ := gt
  have aS : C2_copyFrom W V 0 0 = V 0 0 := AG_copy W V 0 0 (by decide) (by decide)
  have aT : C2_copyFrom W V 0 1 = V 0 1 := AG_copy W V 0 1 (by decide) (by decide)
  have q1 : nS' = nS := by
    have := i.1.2.2.1
    rw [aS, eS] at this
    exact ((nI_eq hS (by have := i.1.2.1; omega)).mp this).symm
  have q2 : t' = t := by
    have := i.1.2.2.2.1
    rw [aT, et] at this
    exact ((nI_eq ht31 (by omega)).mp this).symm
  subst q1 q2
  have n6 := i.1.2.1
  have aD : C2_copyFrom W V (18 + k) w = V (18 + k) w := ag_del (AG_copy W V) (by omega) hw
  obtain ⟨d, d1, d2, d3⟩ := i.1.2.2.2.2.2.2.1 k (by omega) w hw
  rw [aD] at d3
  have dd : 2 ≤ d := by
    rw [d3, nI_leI (by omega) (by decide)] at hd
    omega
  have mD : M 1 ((13 + (3 * k)) + w) = V (18 + k) w := by
    rw [← aD, R_d r (by omega) hw, (pa_at M).1 1 (by decide)]
  have e1 : nI d - nI 1 = nI (d - 1) := by rw [pk_sub (by omega)]
  obtain ⟨R, I⟩ := G_delay (lk := k) (wr := w) (d := d - 1) r i (by omega) hw (by omega) (by omega)
  have eT : drT M (3 * k + w) = up1 (C8_putAside M) 1 ((13 + (3 * k)) + w) (nI (d - 1)) := by
    unfold drT
    rw [show 13 + (3 * k + w) = (13 + (3 * k)) + w by omega, (pa_at M).1 1 (by decide), mD, d3, e1]
  have eV : up1 (C2_copyFrom W V) (18 + k) w (C2_copyFrom W V (18 + k) w - nI 1) = up1 (C2_copyFrom W V) (18 + k) w (nI (d - 1)) := by rw [aD, d3, e1]
  obtain ⟨s1, s2, n', p', t2, ph', R', I', y1, y2, -, -⟩ := G_settle R I ht hc (sm_off (sm_up (sm_r _) (by omega) (by omega)) o)
  rw [eT, eV]
  refine ⟨by rw [show 13 + (3 * k + w) = (13 + (3 * k)) + w by omega]; exact mD, s1, s2, t2, y1, by omega, I'.1.2.2.2.1, ?_⟩
  show C8_settleS _ 1 4 - up1 (C8_putAside M) 1 ((13 + (3 * k)) + w) (nI (d - 1)) 1 4 = _
  rw [← R_t R', I'.1.2.2.2.1, up1_at, if_neg (by omega), ← R_t r, i.1.2.2.2.1, pk_sub y1]
theorem qt_eq (F : Nat → Nat → Nat → Int32) (k w : Nat) : C7_quietTimeWithLess F k w = ((C2_letArriveUpTo (up1 (C2_copyFrom (F 1) (F 0)) (18 + k) w (C2_copyFrom (F 1) (F 0) (18 + k) w - nI 1)) (nI 2000000000)) 0 1, setF F 1 (C2_letArriveUpTo (up1 (C2_copyFrom (F 1) (F 0)) (18 + k) w (C2_copyFrom (F 1) (F 0) (18 + k) w - nI 1)) (nI 2000000000))) := by
  unfold C7_quietTimeWithLess
  try dsimp only
  rw [sff, sff, setF_eq, setF_eq, setF_eq]
theorem Wh_dr {c : Nat} {F : Nat → Nat → Nat → Int32} {M : Nat → Nat → Int32} (h : Wh c F M) (k w j : Nat) : Wh c (C7_quietTimeWithLess F k w).2 (C8_takeBack (C8_settle (drT M j)).2) := by
  rw [qt_eq]
  exact Wh_back (S := C8_settleS (drT M j)) h (fun a h1 h2 => (st_fr _ h1).trans ((fr_up h1).trans ((pa_at M).1 a h2))) (fun j hj => by
    rw [st_fr _ (by decide)]
    unfold drT
    rw [fr_up (by decide)]; exact (pa_at M).2 j hj)
/-- the best so far on both sides -/
def Bst (t : Nat) (best e l : Int32) : Prop := best = (-5) ∨ (¬ best = (-5) ∧ ∃ t', t ≤ t' ∧ t' < 2 ^ 30 ∧ e = nI t' ∧ l = nI (t' - t))
theorem L_dear {c : Nat} (hc : c < 2 ^ 29) {nS t : Nat} (hS : nS ≤ 6) (ht : t < 2 ^ 30) : ∀ (q k w : Nat) (best e l : Int32) (F : Nat → Nat → Nat → Int32) (M : Nat → Nat → Int32), Wh c F M → F 0 0 0 = nI nS → F 0 0 1 = nI t → M 1 3 = nI nS → Bst t best e l → k ≤ nS → w ≤ 3 → 4 - w + 4 * (nS - k) ≤ q → (L7_dearest q k w best e F).1 = (L8_dearest (24 - (3 * k + w)) (3 * k + w) best l M).1 ∧ Wh c (L7_dearest q k w best e F).2 (L8_dearest (24 - (3 * k + w)) (3 * k + w) best l M).2 := by
  intro q
  induction q with
  | zero => intro k w best e l F M h e0 e1 m3 hb hk hw hq; omega
  | succ q ih =>
    intro k w best e l F M h e0 e1 m3 hb hk hw hq
    by_cases c3 : 3 ≤ w
    · have w3 : w = 3 := by omega
      subst w3
      unfold L7_dearest
      rw [if_pos (Nat.le_refl 3), e0, tN_nI (show nS < 2 ^ 31 by omega)]
      by_cases cl : nS < k + 1
      · rw [if_pos cl]
        have ek : k = nS := by omega
        subst ek
        obtain ⟨y, hy⟩ : ∃ y, 24 - (3 * k + 3) = y + 1 := ⟨24 - (3 * k + 3) - 1, by omega⟩
        rw [hy]
        unfold L8_dearest
        rw [m3, tN_nI (show k < 2 ^ 31 by omega), if_pos (Nat.le_refl _)]
        exact ⟨rfl, h⟩
      · rw [if_neg cl]
        have := ih (k + 1) 0 best e l F M h e0 e1 m3 hb (by omega) (by omega) (by omega)
        rw [show 3 * (k + 1) + 0 = 3 * k + 3 by omega] at this
        exact this
    · obtain ⟨y, hy⟩ : ∃ y, 24 - (3 * k + w) = y + 1 := ⟨24 - (3 * k + w) - 1, by omega⟩
      have hy2 : y = 24 - (3 * k + (w + 1)) := by omega
      have nx : ∀ (best' e' l' : Int32) (F' : Nat → Nat → Nat → Int32) (M' : Nat → Nat → Int32), Wh c F' M' → F' 0 0 0 = nI nS → F' 0 0 1 = nI t → M' 1 3 = nI nS → Bst t best' e' l' → (L7_dearest q k (w + 1) best' e' F').1 = (L8_dearest y (3 * k + w + 1) best' l' M').1 ∧ Wh c (L7_dearest q k (w + 1) best' e' F').2 (L8_dearest y (3 * k + w + 1) best' l' M').2 := fun best' e' l' F' M' h' a b d hb' => by
        have := ih k (w + 1) best' e' l' F' M' h' a b d hb' hk (by omega) (by omega)
        rw [← hy2] at this
        exact this
      rw [hy]
      unfold L7_dearest L8_dearest
      rw [if_neg c3, m3, tN_nI (show nS < 2 ^ 31 by omega), if_neg (show ¬ 3 * nS + 3 ≤ 3 * k + w by omega)]
      have mD : M 1 (13 + (3 * k + w)) = F 0 (18 + k) w := by
        obtain ⟨L, n, p, nS', t', ph, r, i, -⟩ := h.1
        rw [R_d r (by have := i.1.2.1; omega) (by omega), show 13 + (3 * k + w) = (13 + (3 * k)) + w by omega]
      rw [mD]
      by_cases cd : F 0 (18 + k) w ≤ nI 1
      · rw [if_pos cd, if_pos cd]
        exact nx best e l F M h e0 e1 m3 hb
      · rw [if_neg cd, if_neg cd]
        obtain ⟨-, -, -, t', t1, t2, t3, t4⟩ := G_dear (W := F 1) (nS := nS) (t := t) h.1 hc e0 e1 (by omega) (by omega) hk (show w < 3 by omega) cd
        have hF := Wh_dr h k w (3 * k + w)
        have f0 : (C7_quietTimeWithLess F k w).2 0 = F 0 := k_quietT F k w (by decide)
        have ev : (C7_quietTimeWithLess F k w).1 = nI t' := by rw [qt_eq]; exact t3
        have m3' : C8_takeBack (C8_settle (drT M (3 * k + w))).2 1 3 = nI nS := (dr_lt (by decide)).trans m3
        have eD : up1 (C8_putAside M) 1 (13 + (3 * k + w)) ((C8_putAside M) 1 (13 + (3 * k + w)) - nI 1) = drT M (3 * k + w) := rfl
        have eb : nI (10 * ((3 * k + w) / 3) + (3 * k + w) % 3) = nI (10 * k + w) := by
          congr 1
          omega
        have nb : ¬ nI (10 * k + w) = (-5) := nI_ne5 (by omega)
        try dsimp only
        rw [eD, ev, t4, eb]
        have go1 := nx (nI (10 * k + w)) (nI t') (nI (t' - t)) _ _ hF (by rw [f0]; exact e0) (by rw [f0]; exact e1) m3' (Or.inr ⟨nb, t', t1, t2, rfl, rfl⟩)
        have go2 := nx best e l _ _ hF (by rw [f0]; exact e0) (by rw [f0]; exact e1) m3' hb
        by_cases c5 : best = (-5)
        · rw [if_pos c5, if_pos c5]
          exact go1
        · rw [if_neg c5, if_neg c5]
          obtain ⟨-, s, b1, b2, rfl, rfl⟩ := hb.resolve_left c5
          have ec : (nI s ≤ nI t') ↔ (nI (s - t) ≤ nI (t' - t)) := by
            rw [nI_leI (by omega) (by omega), nI_leI (by omega) (by omega)]
            omega
          by_cases c6 : nI s ≤ nI t'
          · rw [if_pos c6, if_pos (ec.mp c6)]
            exact go2
          · rw [if_neg c6, if_neg (fun z => c6 (ec.mpr z))]
            exact go1
