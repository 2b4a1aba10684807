/-! a word is added, on both sides -/
theorem inv_more {V V' : Nat → Nat → Int32} {L : List (Nat × Nat)} {n p nS t cap : Nat} {ph : Nat → Nat} (h : Inv V L n p nS t ph cap) (hv : ∀ c i, c < 25 → V' c i = V c i) (hw : wtN V' ≤ wtN V + 1) : Inv V' L n p nS t ph (cap + 1) := by
  obtain ⟨v, ls, lk, sg, pp, cp⟩ := h
  refine ⟨vals_of v (fun c i hc a _ b d => hv c i (by unfold VW at hc; omega)), ls, fun k hk => lk_far (lk k hk) (hv _ _ (by omega)) (hv _ _ (by omega)) rfl rfl, stg_eq sg (by have := v.2.1; omega) (fun i hi => fu_same (fun k _ => hv 2 k (by decide)) hi), ?_, by omega⟩
  rw [pp]
  exact (S7_eq (fun j hj => by show pwt _ (fu _ j) = pwt _ (fu V j); rw [fu_same (fun k _ => hv 2 k (by decide)) hj])).symm
/-- the waiter's link is at rest and a word waits: it goes -/
theorem G_go {V M : Nat → Nat → Int32} {L : List (Nat × Nat)} {n p nS t cap : Nat} {ph : Nat → Nat} (h : Rel V (M 1) L n p) (i : Inv V L n p nS t ph cap) (hr : ph 0 = 0) (hw : 0 < wtN V) (ht : t < 2 ^ 29) (hcb : cap < 2 ^ 29) :
    ∃ L' p' ph', Rel (C2_offer (C2_letOneGo V).2 0 (C2_letOneGo V).1) (C8_letGo M 1) L' n p' ∧ Inv (C2_offer (C2_letOneGo V).2 0 (C2_letOneGo V).1) L' n p' nS t ph' cap ∧ ¬ (C2_letOneGo V).1 = (-1) := by
  have hlen := inv_len i
  obtain ⟨v, ls, lk, sg, pp, cp⟩ := id i
  obtain ⟨l1, l2, l3, la, l4, l5, l6⟩ := lk 0 (by decide)
  rw [hr] at l2 l3 l4 l6
  obtain ⟨dd, b1, b2, b3⟩ := v.2.2.2.2.2.2.1 0 (by decide) 2 (by decide)
  obtain ⟨dr, c1, c2, c3⟩ := v.2.2.2.2.2.2.1 0 (by decide) 0 (by decide)
  obtain ⟨le, e1, e2⟩ := v.2.2.2.2.1
  have pw0 : pwt (ph 0) (fu V 0) = 0 := by rw [hr]; rfl
  have p6 : p + 1 < 8 := by
    have a : S7 (fun k => pwt (ph k) (fu V k)) ≤ 6 := by
      have q := S7_one (f := fun k => pwt (ph k) (fu V k)) (g := fun k => if k = 0 then 1 else pwt (ph k) (fu V k)) (show 0 < 7 by decide) (fun i hi hne => if_neg hne)
      have q2 : S7 (fun k => if k = 0 then 1 else pwt (ph k) (fu V k)) ≤ 7 * 1 := S7_le (fun i hi => by
        show (if i = 0 then 1 else _) ≤ 1
        split
        · exact Nat.le_refl 1
        · exact pwt_le _ (fu_le V i))
      have q3 : (if (0 : Nat) = 0 then 1 else pwt (ph 0) (fu V 0)) = 1 := if_pos rfl
      rw [q3, pw0] at q
      omega
    omega
  have m76 : M 1 76 = nI 1 := by
    have := R_eq h (c := 11) (i := 6) (by decide)
    rw [show M 1 76 = V 11 6 from this.symm]
    exact l2
  obtain ⟨w, M', hw32, x1, x2, x3, x4, x5, x6, x7⟩ := R_go h p6 (by omega) (by rw [m76]; decide) hw
  rw [x1, x3]
  have s : ∀ c i, c ≠ 0 → c ≠ 3 → c < 25 → (C2_letOneGo V).2 c i = V c i := fun c i y1 y2 y3 => by rw [x4 c y1 y2 y3]
  have R := R_offer (t := t) (dd := dd) (dr := dr) (le := le) x2 (by omega) (show 0 < 7 by decide) hw32 (by rw [x5 1 (by decide) (by decide)]; exact v.2.2.2.1) (by rw [s _ _ (by decide) (by decide) (by decide)]; exact b3) (by rw [s _ _ (by decide) (by decide) (by decide)]; exact c3) (by rw [s _ _ (by decide) (by decide) (by decide)]; exact e2) (by omega)
  have F : ∀ c i, VW c i → c ≠ 27 → c ≠ 28 → C2_offer (C2_letOneGo V).2 0 (nI w) c i = if c = 11 ∧ i = 6 then nI 0 else V c i := fun c i hv n27 n28 => by
    rw [vw_offer (by decide) hv]
    by_cases z : c = 11 ∧ i = 6
    · rw [if_pos (show c = 11 + 0 ∧ i = 6 by omega), if_pos z]
    · rw [if_neg (show ¬ (c = 11 + 0 ∧ i = 6) by omega), if_neg z]
      by_cases z0 : c = 0
      · subst z0
        exact x5 i (by unfold VW at hv; omega) (by unfold VW at hv; omega)
      · exact s c i z0 (by unfold VW at hv; omega) (by unfold VW at hv; omega)
  have F2 : ∀ c i, VW c i → c ≠ 27 → c ≠ 28 → ¬ (c = 11 ∧ i = 6) → C2_offer (C2_letOneGo V).2 0 (nI w) c i = V c i := fun c i hc x y hn => by rw [F c i hc x y, if_neg hn]
  have wt' : wtN (C2_offer (C2_letOneGo V).2 0 (nI w)) + 1 = wtN V := by
    have y : wtN (C2_offer (C2_letOneGo V).2 0 (nI w)) = wtN (C2_letOneGo V).2 := by
      unfold wtN
      rw [vw_offer (by decide) (show VW 27 0 by decide), vw_offer (by decide) (show VW 28 0 by decide)]; rfl
    rw [y, x7]
  refine ⟨_, p + 1, upN ph 0 1, R, ⟨vals_of v (fun c i hc x y a b => F2 c i hc a b (by omega)), lst_snoc (lst_snoc ls (by omega) (by omega) (Nat.zero_le _) (by decide) hw32) (by omega) (by omega) (Nat.zero_le _) (by decide) (by decide), fun k hk' => ?_, stg_eq (stg1 sg (Nat.zero_le _) (fun q => absurd q (by decide)) (fun _ _ q => absurd q (by decide)) (fun q => absurd q (by decide))) (by have := v.2.1; omega) (fun i hi => fu_same (fun k _ => F2 2 k (vw2 k) (by decide) (by decide) (by omega)) hi), ?_, by omega⟩, nI_nem1 (by omega)⟩
  · by_cases c : k = 0
    · subst c
      rw [upN_eq]
      refine ⟨by decide, by rw [F _ _ (by decide) (by decide) (by decide), if_pos ⟨rfl, rfl⟩]; rfl, by rw [F2 _ _ (by decide) (by decide) (by decide) (by omega)]; exact l3, t + dr + le, ?_, ?_, ?_⟩
      · rw [hs_at (by decide) (by decide), hs_da hw32, l4]; rfl
      · rw [dt_hs (by decide) (by decide), dt_at hw32]
        exact ⟨by omega, dk_shift (show t + 16 + 4 ≤ t + 20 by omega) l6⟩
      · rw [dt_hs (by decide) (by decide), dt_at hw32]
        exact ⟨show t + dd + 4 * 0 ≤ t + dr + le + 19 by omega, dk_shift (show t + 16 + 4 ≤ t + dr + le + 19 by omega) l6⟩
    · rw [upN_ne c]
      exact lk_far (lk k hk') (F2 _ _ (by unfold VW; omega) (by omega) (by omega) (by omega)) (F2 _ _ (by unfold VW; omega) (by omega) (by omega) (by omega)) (by rw [hs_ne (by decide) (by decide) (fun z => c z.symm), hs_da hw32]) (by rw [dt_hs (by decide) (by decide), dt_ne (by decide) hw32 (fun z => c z.symm)])
  · have e := S7_one (f := fun k => pwt (ph k) (fu V k)) (g := fun k => pwt (upN ph 0 1 k) (fu V k)) (show 0 < 7 by decide) (fun i hi hne => by
      show pwt (upN ph 0 1 i) _ = pwt (ph i) _
      rw [upN_ne hne])
    have z2 : pwt (upN ph 0 1 0) (fu V 0) = 1 := by rw [upN_eq]; rfl
    rw [pw0, z2] at e
    have e3 : S7 (fun k => pwt (upN ph 0 1 k) (fu (C2_offer (C2_letOneGo V).2 0 (nI w)) k)) = S7 (fun k => pwt (upN ph 0 1 k) (fu V k)) := S7_eq (fun j hj => by
      show pwt _ (fu _ j) = pwt _ (fu V j)
      rw [fu_same (fun k _ => F2 2 k (vw2 k) (by decide) (by decide) (by omega)) hj])
    rw [e3]
    omega
/-- add: what it answers and leaves, on both sides -/
theorem G_add {V M : Nat → Nat → Int32} {L : List (Nat × Nat)} {n p nS t cap : Nat} {ph : Nat → Nat} (h : Rel V (M 1) L n p) (i : Inv V L n p nS t ph cap) (sender word : Int32) (ht : t < 2 ^ 29) (hcb : cap + 1 < 2 ^ 29) :
    (C2_addWord V sender word).1 = (C8_adds M sender word).1 ∧ ((C8_adds M sender word).1 < 0 → C2_addWord V sender word = ((C8_adds M sender word).1, V) ∧ (C8_adds M sender word).2 = M) ∧ ∃ L' p' ph', Rel (C2_addWord V sender word).2 ((C8_adds M sender word).2 1) L' n p' ∧ Inv (C2_addWord V sender word).2 L' n p' nS t ph' (cap + 1) ∧ (Off V → Off (C2_addWord V sender word).2) := by
  have same : Rel V (M 1) L n p ∧ Inv V L n p nS t ph (cap + 1) ∧ (Off V → Off V) := ⟨h, inv_more i (fun _ _ _ => rfl) (by omega), id⟩
  unfold C2_addWord C8_adds C8_isSender C8_within
  try dsimp only
  by_cases a1 : sender < 0
  · rw [if_pos a1, if_pos (show sender < nI 0 from a1), if_pos (show nI 0 = 0 from rfl)]
    exact ⟨rfl, fun _ => ⟨rfl, rfl⟩, L, p, ph, same⟩
  · rw [if_neg a1, if_neg (show ¬ sender < nI 0 from a1)]
    obtain ⟨s, hs31, rfl⟩ := nI_of a1
    by_cases a2 : s < 2
    · rw [if_pos ((nI_ltI hs31 (by decide)).mpr a2), if_neg (show ¬ nI 1 < nI s by rw [nI_ltI (by decide) hs31]; omega), if_neg (show ¬ nI 1 = 0 by decide)]
      by_cases b1 : word < 0
      · rw [if_pos b1, if_pos (show word < nI 0 from b1), if_pos (show nI 0 = 0 from rfl)]
        exact ⟨rfl, fun _ => ⟨rfl, rfl⟩, L, p, ph, same⟩
      · rw [if_neg b1, if_neg (show ¬ word < nI 0 from b1)]
        obtain ⟨w, hw31, rfl⟩ := nI_of b1
        by_cases b2 : w ≤ 15
        · rw [if_pos ((nI_leI hw31 (by decide)).mpr b2), if_neg (show ¬ nI 15 < nI w by rw [nI_ltI (by decide) hw31]; omega), if_neg (show ¬ nI 1 = 0 by decide), tN_nI hs31]
          obtain ⟨c, c1, c2, c3⟩ := h.2.2.2.2.1 s a2
          have mc : M 1 (11 + s) = nI c := by
            have hD : DM (27 + s) 0 := by unfold DM; omega
            have hp2 : ps (27 + s) 0 = 11 + s := by
              rcases (show s = 0 ∨ s = 1 by omega) with rfl | rfl <;> rfl
            rw [← hp2, ← h.1 _ _ hD]; exact c2
          rw [mc, tN_nI (by omega), c2]
          by_cases d : c < 20
          · rw [if_pos ((nI_ltI (by omega) (by decide)).mpr d), if_neg (show ¬ c = 20 by omega)]
            obtain ⟨R, F, F27, FW⟩ := R_app h a2 d (show w < 16 by omega) c2
            have ofs : Off V → Off (rwS V s (C5_append (rwU V s) (nI w))) := fun o => sm_off (sm_rw (sm_r V)) o
            have em : up1 M 1 ((109 + (20 * s)) + c) (nI w) 1 (11 + s) + nI 1 = nI (c + 1) := by rw [up1_oi (by omega), mc, nI_add]
            rw [em]
            obtain ⟨V1, e1⟩ : ∃ z, z = rwS V s (C5_append (rwU V s) (nI w)) := ⟨_, rfl⟩
            obtain ⟨M1, g1⟩ : ∃ z, z = up1 (up1 M 1 ((109 + (20 * s)) + c) (nI w)) 1 (11 + s) (nI (c + 1)) := ⟨_, rfl⟩
            rw [← e1, ← g1] at R
            rw [← e1] at F F27 FW ofs
            rw [← e1, ← g1]
            have I : Inv V1 L n p nS t ph (cap + 1) := inv_more i (fun c' j hc => F c' j (by omega) (by omega)) (by omega)
            obtain ⟨l1, l2, l3, -⟩ := I.2.2.1 0 (by decide)
            have l2 : V1 11 6 = nI (if ph 0 = 0 then 1 else 0) := l2
            have m76 : M1 1 76 = V1 11 6 := (R_eq R (c := 11) (i := 6) (by decide)).symm
            have ans : ∀ (V3 M3 : Nat → Nat → Int32) L' p' ph', Rel V3 (M3 1) L' n p' → Inv V3 L' n p' nS t ph' (cap + 1) → V3 (27 + s) 0 = M3 1 (11 + s) ∧ (M3 1 (11 + s) < 0 → False) := fun V3 M3 L' p' ph' r _ => by
              have hD : DM (27 + s) 0 := by unfold DM; omega
              have hp2 : ps (27 + s) 0 = 11 + s := by
                rcases (show s = 0 ∨ s = 1 by omega) with rfl | rfl <;> rfl
              have q := r.1 _ _ hD
              rw [hp2] at q
              refine ⟨q, fun z => ?_⟩
              obtain ⟨k, k1, k2, -⟩ := r.2.2.2.2.1 s a2
              rw [← q, k2] at z
              exact nI_pos (by omega) z
            by_cases z : ph 0 = 0
            · rw [if_pos z] at l2
              rw [if_neg (show ¬ V1 11 6 = 0 by rw [l2]; decide)]
              obtain ⟨L', p', ph', R', I', ng⟩ := G_go R I z (by omega) ht hcb
              obtain ⟨q1, q2⟩ := ans _ _ L' p' ph' R' I'
              exact ⟨q1, fun y => absurd y q2, L', p', ph', R', I', fun o => by
                have q := off_go (rwg_of R.2.2.2.2.1) (ofs o)
                rw [if_neg ng] at q
                exact q⟩
            · rw [if_neg z] at l2
              rw [if_pos (show V1 11 6 = 0 by rw [l2]; rfl)]
              have eg : C8_letGo M1 = M1 := by
                unfold C8_letGo
                exact if_pos (by rw [m76, l2]; rfl)
              rw [eg]
              obtain ⟨q1, q2⟩ := ans _ _ L p ph R I
              exact ⟨q1, fun y => absurd y q2, L, p, ph, R, I, ofs⟩
          · rw [if_neg (show ¬ nI c < nI 20 by rw [nI_ltI (by omega) (by decide)]; exact d), if_pos (show c = 20 by omega)]
            exact ⟨rfl, fun _ => ⟨rfl, rfl⟩, L, p, ph, same⟩
        · rw [if_neg (show ¬ nI w ≤ nI 15 by rw [nI_leI hw31 (by decide)]; exact b2), if_pos ((nI_ltI (by decide) hw31).mpr (by omega)), if_pos (show nI 0 = 0 from rfl)]
          exact ⟨rfl, fun _ => ⟨rfl, rfl⟩, L, p, ph, same⟩
    · rw [if_neg (show ¬ nI s < nI 2 by rw [nI_ltI hs31 (by decide)]; exact a2), if_pos ((nI_ltI (by decide) hs31).mpr (by omega)), if_pos (show nI 0 = 0 from rfl)]
      exact ⟨rfl, fun _ => ⟨rfl, rfl⟩, L, p, ph, same⟩
