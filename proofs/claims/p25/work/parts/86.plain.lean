/-! a line's plain changes: time, delays, settings, words -/
theorem wtN_le {V : Nat → Nat → Int32} {m : Nat → Int32} (h : Rws V m) : wtN V ≤ 40 := by
  obtain ⟨c0, a0, a1, -⟩ := h 0 (by decide)
  obtain ⟨c1, b0, b1, -⟩ := h 1 (by decide)
  have a1 : V 27 0 = nI c0 := a1
  have b1 : V 28 0 = nI c1 := b1
  unfold wtN
  rw [a1, b1, tN_nI (by omega), tN_nI (by omega)]
  omega
theorem hwt_le {nS k p f : Nat} (hn : nS ≤ 6) : hwt nS k p f ≤ 39 := by
  unfold hwt
  repeat' split
  all_goals omega
theorem mu_le {V : Nat → Nat → Int32} {m : Nat → Int32} {L : List (Nat × Nat)} {n p nS t cap : Nat} {ph : Nat → Nat} (h : Rel V m L n p) (i : Inv V L n p nS t ph cap) : mu V L nS ph ≤ 2000 := by
  have n6 := i.1.2.1
  have w := wtN_le h.2.2.2.2.1
  have a : S7 (fun k => hwt nS k (ph k) (fu V k)) ≤ 7 * 39 := S7_le (fun k _ => hwt_le n6)
  have b : S7 (fun k => (dts k L).length) ≤ 7 * 6 := S7_le (fun j hj => by
    obtain ⟨-, -, -, x, -, d, -⟩ := i.2.2.1 j hj
    exact dts_6 d (fun x hx => (i.2.1 x hx).1))
  have c : 5 * (nS + 1) * wtN V ≤ 35 * 40 := Nat.mul_le_mul (by omega) w
  unfold mu
  omega
theorem R_m {V : Nat → Nat → Int32} {m m' : Nat → Int32} {L : List (Nat × Nat)} {n p : Nat} (h : Rel V m L n p) (e : ∀ j, j < 719 → m' j = m j) : Rel V m' L n p := by
  obtain ⟨h1, h2, h3, h4, h5, h6, h7⟩ := h
  have hl := h2.1
  refine ⟨E_m h1 (fun j a _ _ => e j (by omega)), h2, ⟨by rw [e 10 (by decide)]; exact h3.1, fun j hj => ?_⟩, Hld_of h4 rfl (fun j a b => e j (by omega)), Rws_of h5 rfl rfl rfl rfl (fun j a b => e j (by omega)), Pnd_of h6 rfl rfl rfl (e 9 (by decide)) (fun j a b => e j (by omega)), Nts_of h7 rfl rfl rfl (fun j a b => e j (by omega))⟩
  obtain ⟨a, b, c, d⟩ := h3.2 j hj
  exact ⟨by rw [e _ (by omega)]; exact a, by rw [e _ (by omega)]; exact b, by rw [e _ (by omega)]; exact c, by rw [e _ (by omega)]; exact d⟩
/-- a number that the ways of the words don't look at, or one of the values -/
theorem inv_up {V : Nat → Nat → Int32} {L : List (Nat × Nat)} {n p nS t cap c i : Nat} {ph : Nat → Nat} {x : Int32} (h : Inv V L n p nS t ph cap) (hv : Vals (up1 V c i x) nS t) (hc : c ≠ 2 ∧ c ≠ 27 ∧ c ≠ 28 ∧ ¬ (11 ≤ c ∧ c < 18 ∧ (i = 6 ∨ i = 7))) : Inv (up1 V c i x) L n p nS t ph cap := by
  obtain ⟨v, ls, lk, sg, pp, cp⟩ := h
  have f2 : ∀ k, k < 6 → up1 V c i x 2 k = V 2 k := fun k _ => by rw [up1_ne (by omega)]
  refine ⟨hv, ls, fun k hk => lk_far (lk k hk) ?_ ?_ rfl rfl, stg_eq sg (by have := v.2.1; omega) (fun i hi => fu_same f2 hi), ?_, ?_⟩
  · rw [up1_at, if_neg (by omega)]
  · rw [up1_at, if_neg (by omega)]
  · rw [pp]
    exact (S7_eq (fun j hj => by show pwt _ (fu _ j) = pwt _ (fu V j); rw [fu_same f2 hj])).symm
  · rw [show wtN (up1 V c i x) = wtN V from wt_same (by rw [up1_ne (by omega)]) (by rw [up1_ne (by omega)])]
    exact cp
theorem G_time {V M : Nat → Nat → Int32} {L : List (Nat × Nat)} {n p nS t cap T : Nat} {ph : Nat → Nat} (h : Rel V (M 1) L n p) (i : Inv V L n p nS t ph cap) (hT : t ≤ T) (hx : ∀ x ∈ L, T < x.1) : Rel (up1 V 0 1 (nI T)) (up1 M 1 4 (nI T) 1) L n p ∧ Inv (up1 V 0 1 (nI T)) L n p nS T ph cap := by
  refine ⟨by rw [upM]; exact R_up (c := 0) (i := 1) h (by decide) (by decide), ?_⟩
  obtain ⟨v, ls, lk, sg, pp, cp⟩ := i
  have f2 : ∀ k, k < 6 → up1 V 0 1 (nI T) 2 k = V 2 k := fun k _ => by rw [up1_ne (by decide)]
  refine ⟨?_, fun x hx2 => ?_, fun k hk => LkI_frame (lk k hk) (by rw [up1_ne (by omega)]) (by rw [up1_ne (by omega)]) rfl (List.Sublist.refl _) hT, stg_eq sg (by have := v.2.1; omega) (fun i hi => fu_same f2 hi), ?_, ?_⟩
  · obtain ⟨x, y, c, d, ⟨le, e1, e2⟩, ⟨th, f1, f2⟩, g, k⟩ := v
    exact ⟨x, y, by rw [up1_oi (by decide)]; exact c, up1_eq, ⟨le, e1, by rw [up1_ne (by decide)]; exact e2⟩, ⟨th, f1, by rw [up1_ne (by decide)]; exact f2⟩, fun j hj w hw => by rw [up1_ne (by omega)]; exact g j hj w hw, fun j hj => by rw [up1_ne (by omega)]; exact k j hj⟩
  · have a := ls x hx2
    have b := hx x hx2
    exact ⟨by omega, by omega, a.2.2⟩
  · rw [pp]
    exact (S7_eq (fun j hj => by show pwt _ (fu _ j) = pwt _ (fu V j); rw [fu_same f2 hj])).symm
  · rw [show wtN (up1 V 0 1 (nI T)) = wtN V from wt_same (by rw [up1_ne (by decide)]) (by rw [up1_ne (by decide)])]
    exact cp
theorem G_delay {V M : Nat → Nat → Int32} {L : List (Nat × Nat)} {n p nS t cap lk wr d : Nat} {ph : Nat → Nat} (h : Rel V (M 1) L n p) (i : Inv V L n p nS t ph cap) (hk : lk < 7) (hw : wr < 3) (h1 : 1 ≤ d) (h2 : d ≤ 20) : Rel (up1 V (18 + lk) wr (nI d)) (up1 M 1 ((13 + (3 * lk)) + wr) (nI d) 1) L n p ∧ Inv (up1 V (18 + lk) wr (nI d)) L n p nS t ph cap := by
  refine ⟨by rw [upM, ← (ps_del hk hw).1]; exact R_up h (ps_del hk hw).2 (by omega), inv_up i ?_ (by omega)⟩
  obtain ⟨x, y, c, dd, ⟨le, e1, e2⟩, ⟨th, f1, f2⟩, g, k⟩ := i.1
  refine ⟨x, y, by rw [up1_ne (by omega)]; exact c, by rw [up1_ne (by omega)]; exact dd, ⟨le, e1, by rw [up1_ne (by omega)]; exact e2⟩, ⟨th, f1, by rw [up1_ne (by omega)]; exact f2⟩, fun j hj w hw => ?_, fun j hj => by rw [up1_ne (by omega)]; exact k j hj⟩
  rw [up1_at]
  by_cases q : 18 + j = 18 + lk ∧ w = wr
  · rw [if_pos q]; exact ⟨d, h1, h2, rfl⟩
  · rw [if_neg q]; exact g j hj w hw
theorem G_set {V M : Nat → Nat → Int32} {L : List (Nat × Nat)} {n p nS t cap s x : Nat} {ph : Nat → Nat} (h : Rel V (M 1) L n p) (i : Inv V L n p nS t ph cap) (hs : s < 3) (h2 : x ≤ 20) : Rel (up1 V 1 s (nI x)) (up1 M 1 s (nI x) 1) L n p ∧ Inv (up1 V 1 s (nI x)) L n p nS t ph cap := by
  have hd : DM 1 s := by unfold DM; omega
  have hp : ps 1 s = s := rfl
  refine ⟨by rw [upM]; have := R_up (x := nI x) h hd (by omega); rw [hp] at this; exact this, inv_up i ?_ (by omega)⟩
  obtain ⟨y, z, c, dd, ⟨le, e1, e2⟩, ⟨th, f1, f2⟩, g, k⟩ := i.1
  refine ⟨y, z, by rw [up1_ne (by omega)]; exact c, by rw [up1_ne (by omega)]; exact dd, ?_, ?_, fun j hj w hw => by rw [up1_ne (by omega)]; exact g j hj w hw, fun j hj => by rw [up1_ne (by omega)]; exact k j hj⟩
  · rw [up1_at]
    by_cases q : 1 = 1 ∧ 0 = s
    · rw [if_pos q]; exact ⟨x, h2, rfl⟩
    · rw [if_neg q]; exact ⟨le, e1, e2⟩
  · rw [up1_at]
    by_cases q : 1 = 1 ∧ 1 = s
    · rw [if_pos q]; exact ⟨x, h2, rfl⟩
    · rw [if_neg q]; exact ⟨th, f1, f2⟩
/-- a word comes to the end of a sender's row -/
theorem R_app {V M : Nat → Nat → Int32} {L : List (Nat × Nat)} {n p s c w : Nat} (h : Rel V (M 1) L n p) (hs : s < 2) (hc : c < 20) (hw : w < 16) (e : V (27 + s) 0 = nI c) : Rel (rwS V s (C5_append (rwU V s) (nI w))) (up1 (up1 M 1 ((109 + (20 * s)) + c) (nI w)) 1 (11 + s) (nI (c + 1)) 1) L n p ∧ (∀ c' i, c' ≠ 27 + s → c' ≠ 25 + s → rwS V s (C5_append (rwU V s) (nI w)) c' i = V c' i) ∧ rwS V s (C5_append (rwU V s) (nI w)) (27 + s) 0 = nI (c + 1) ∧ wtN (rwS V s (C5_append (rwU V s) (nI w))) = wtN V + 1 := by
  obtain ⟨h1, h2, h3, h4, h5, h6, h7⟩ := h
  have tc : tN (V (27 + s) 0) = c := by rw [e]; exact tN_nI (by omega)
  have eA : C5_append (rwU V s) (nI w) = up1 (up1 (rwU V s) 1 c (nI w)) 0 0 (nI (c + 1)) := by
    show (if 20 ≤ tN (V (27 + s) 0) then _ else up1 (up1 (rwU V s) 1 (tN (V (27 + s) 0)) (nI w)) 0 0 (V (27 + s) 0 + nI 1)) = _
    rw [tc, if_neg (by omega), e, nI_add]
  rw [eA]
  obtain ⟨V', eV⟩ : ∃ z, z = rwS V s (up1 (up1 (rwU V s) 1 c (nI w)) 0 0 (nI (c + 1))) := ⟨_, rfl⟩
  rw [← eV]
  have f : ∀ c', c' ≠ 27 + s → c' ≠ 25 + s → V' c' = V c' := fun c' a b => by rw [eV]; exact rwS_ne a b
  have f27 : V' (27 + s) 0 = nI (c + 1) := by rw [eV]; show setC (setC V (27 + s) _) (25 + s) _ (27 + s) 0 = _; rw [setC_ne (by omega), setC_eq]; rfl
  have f25 : ∀ j, V' (25 + s) j = if j = c then nI w else V (25 + s) j := fun j => by rw [eV]; show setC (setC V (27 + s) _) (25 + s) _ (25 + s) j = _; rw [setC_eq]; rfl
  obtain ⟨m', em⟩ : ∃ z, z = up1 (up1 M 1 ((109 + (20 * s)) + c) (nI w)) 1 (11 + s) (nI (c + 1)) 1 := ⟨_, rfl⟩
  rw [← em]
  have g : ∀ j, m' j = if j = 11 + s then nI (c + 1) else if j = 109 + 20 * s + c then nI w else M 1 j := fun j => by
    rw [em, up1_at, up1_at]
    by_cases q : j = 11 + s
    · rw [if_pos ⟨rfl, q⟩, if_pos q]
    · rw [if_neg (fun z => q z.2), if_neg q]
      by_cases q2 : j = 109 + 20 * s + c
      · rw [if_pos ⟨rfl, q2⟩, if_pos q2]
      · rw [if_neg (fun z => q2 z.2), if_neg q2]
  have go : ∀ j, j ≠ 11 + s → ¬ (109 ≤ j ∧ j < 149) → m' j = M 1 j := fun j a b => by rw [g, if_neg a, if_neg (by omega)]
  refine ⟨⟨?_, ring_of h2 (f 4 (by omega) (by omega)) (f 5 (by omega) (by omega)) (f 6 (by omega) (by omega)), listM_of h3 (go 10 (by omega) (by omega)) (fun j hj => go j (by omega) (by omega)), Hld_of h4 (f 2 (by omega) (by omega)) (fun j a b => go j (by omega) (by omega)), ?_, Pnd_of h6 (by rw [f 7 (by omega) (by omega)]) (by rw [f 0 (by omega) (by omega)]) (f 3 (by omega) (by omega)) (go 9 (by omega) (by omega)) (fun j a b => go j (by omega) (by omega)), Nts_of h7 (f 8 (by omega) (by omega)) (f 9 (by omega) (by omega)) (f 10 (by omega) (by omega)) (fun j a b => go j (by omega) (by omega))⟩, fun c' i a b => by rw [f c' a b], f27, ?_⟩
  · intro c' i hd
    have hr := ps_rng hd
    have hp2 : ps (27 + s) 0 = 11 + s := by
      rcases (show s = 0 ∨ s = 1 by omega) with rfl | rfl <;> rfl
    by_cases q : c' = 27 + s
    · have hi : i = 0 := by unfold DM at hd; omega
      subst hi
      rw [q, f27, hp2, g, if_pos rfl]
    · have hx : ps c' i ≠ 11 + s := by
        intro z
        have hD : DM (27 + s) 0 := by unfold DM; omega
        have := ps_inj hd hD (z.trans hp2.symm); omega
      rw [f c' q (by unfold DM at hd; omega), go _ hx (by omega)]
      exact h1 c' i hd
  · intro u hu
    by_cases q : u = s
    · subst q
      obtain ⟨cn, cn1, cn2, cn3⟩ := h5 u hs
      have : cn = c := (nI_eq (by omega) (by omega)).mp (cn2.symm.trans e)
      subst this
      refine ⟨cn + 1, by omega, f27, fun j hj => ?_⟩
      rw [f25, g, if_neg (show ¬ 109 + 20 * u + j = 11 + u by omega)]
      by_cases z : j = cn
      · rw [if_pos z, if_pos (show 109 + 20 * u + j = 109 + 20 * u + cn by omega)]; exact ⟨w, hw, rfl, rfl⟩
      · rw [if_neg z, if_neg (show ¬ 109 + 20 * u + j = 109 + 20 * u + cn by omega)]; exact cn3 j (by omega)
    · obtain ⟨k, k1, k2, k3⟩ := h5 u hu
      refine ⟨k, k1, by rw [f _ (by omega) (by omega)]; exact k2, fun j hj => ?_⟩
      rw [f _ (by omega) (by omega), g, if_neg (by omega), if_neg (by omega)]
      exact k3 j hj
  · unfold wtN
    have e2 : tN (V' (27 + s) 0) = tN (V (27 + s) 0) + 1 := by rw [f27, tc, tN_nI (by omega)]
    rcases (show s = 0 ∨ s = 1 by omega) with rfl | rfl
    · have e3 : V' 28 = V 28 := f 28 (by decide) (by decide)
      rw [e3]
      have e4 : tN (V' 27 0) = tN (V 27 0) + 1 := e2
      omega
    · have e3 : V' 27 = V 27 := f 27 (by decide) (by decide)
      rw [e3]
      have e4 : tN (V' 28 0) = tN (V 28 0) + 1 := e2
      omega
