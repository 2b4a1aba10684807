/-- how many words wait -/
def wtN (V : Nat → Nat → Int32) : Nat := tN (V 27 0) + tN (V 28 0)
set_option maxHeartbeats 4000000 in
/-- the word of the sender s is let go, on both sides -/
theorem R_goS {V M : Nat → Nat → Int32} {L : List (Nat × Nat)} {n p s : Nat} (h : Rel V (M 1) L n p) (hp : p + 1 < 8) (hb : n + p + 1 < 2 ^ 30) (hs : s < 2) (hch : C2_chosenSender V = nI s) (hc : V (27 + s) 0 ≠ nI 0) :
    ∃ w, w < 16 ∧ V (25 + s) 0 = nI w ∧ M 1 (109 + 20 * s) = nI w ∧ (C2_letOneGo V).1 = nI (16 * s + w) ∧ Rel (C2_letOneGo V).2 (goM M s (nI (16 * s + w)) 1) L n (p + 1) ∧ (∀ c, c ≠ 0 → c ≠ 3 → c < 25 → (C2_letOneGo V).2 c = V c) ∧ (∀ i, i ≠ 2 → i ≠ 3 → (C2_letOneGo V).2 0 i = V 0 i) ∧ (C2_letOneGo V).2 0 3 = V 0 3 + nI 1 ∧ wtN (C2_letOneGo V).2 + 1 = wtN V := by
  obtain ⟨h1, h2, h3, h4, h5, h6, h7⟩ := h
  obtain ⟨p1, p2, p3, p4, p5, p6⟩ := h6
  obtain ⟨cn, cn1, cn2, cn3⟩ := h5 s hs
  have cn0 : 0 < cn := by
    rcases Nat.eq_zero_or_pos cn with z | z
    · rw [z] at cn2; exact absurd cn2 hc
    · exact z
  obtain ⟨w, hw, w1, w2⟩ := cn3 0 cn0
  rw [Nat.add_zero] at w2
  have es : tN (C2_chosenSender V) = s := by rw [hch]; exact tN_nI (by omega)
  have ec : tN (V (27 + s) 0) = cn := by rw [cn2]; exact tN_nI (by omega)
  have eo : tN (V 0 3) = n + p := by rw [p4]; exact tN_nI (by omega)
  have e9 : tN (M 1 9) = p := by rw [p5]; exact tN_nI (by omega)
  have hR : C5_removeFirst (rwU V s) = (nI w, setC (up1 (rwU V s) 0 0 (V (27 + s) 0 - nI 1)) 1 (rmL (cn - 1) 20 0 (V (25 + s)))) := by
    show (if 0 < tN (V (27 + s) 0) then (V (25 + s) 0, setC (up1 (rwU V s) 0 0 (V (27 + s) 0 - nI 1)) 1 (rmL (tN (V (27 + s) 0) - 1) 20 0 (V (25 + s)))) else ((-1), rwU V s)) = _
    rw [if_pos (show 0 < tN (V (27 + s) 0) by omega), w1, ec]
  obtain ⟨V1, e1⟩ : ∃ z, z = rwS V s (setC (up1 (rwU V s) 0 0 (V (27 + s) 0 - nI 1)) 1 (rmL (cn - 1) 20 0 (V (25 + s)))) := ⟨_, rfl⟩
  have hL : C2_letOneGo V = (nI (s * 16) + nI w, up1 (up1 (up1 V1 0 2 (nI s)) 3 ((n + p) % 8) (nI (s * 16) + nI w)) 0 3 (up1 (up1 V1 0 2 (nI s)) 3 ((n + p) % 8) (nI (s * 16) + nI w) 0 3 + nI 1)) := by
    unfold C2_letOneGo
    try dsimp only
    rw [es, hR, eo]
    try dsimp only
    rw [if_neg (by
      intro z
      have h9 := nI_pos (show w < 2 ^ 31 by omega)
      rw [z] at h9
      exact h9 (by decide)), ← e1]
  have g : ∀ c, c ≠ 27 + s → c ≠ 25 + s → V1 c = V c := fun c a b => by rw [e1]; exact rwS_ne a b
  have g27 : V1 (27 + s) 0 = nI (cn - 1) := by
    have : V1 (27 + s) 0 = V (27 + s) 0 - nI 1 := by rw [e1]; show setC (setC V (27 + s) _) (25 + s) _ (27 + s) 0 = _; rw [setC_ne (by omega), setC_eq]; rfl
    rw [this, cn2, pk_sub cn0]
  have g25 : ∀ j, V1 (25 + s) j = if j < cn - 1 then V (25 + s) (j + 1) else V (25 + s) j := fun j => by
    have : V1 (25 + s) j = rmL (cn - 1) 20 0 (V (25 + s)) j := by rw [e1]; show setC (setC V (27 + s) _) (25 + s) _ (25 + s) j = _; rw [setC_eq]; rfl
    rw [this, rmL_at _ _ _ _ _ (by omega)]
    by_cases c : j < cn - 1
    · rw [if_pos ⟨Nat.zero_le _, c⟩, if_pos c]
    · rw [if_neg (fun z => c z.2), if_neg c]
  rw [hL, nI_add, show s * 16 + w = 16 * s + w by omega]
  try dsimp only
  obtain ⟨V', eV⟩ : ∃ z, z = up1 (up1 (up1 V1 0 2 (nI s)) 3 ((n + p) % 8) (nI (16 * s + w))) 0 3 (up1 (up1 V1 0 2 (nI s)) 3 ((n + p) % 8) (nI (16 * s + w)) 0 3 + nI 1) := ⟨_, rfl⟩
  rw [← eV]
  have f : ∀ c, c ≠ 0 → c ≠ 3 → V' c = V1 c := fun c a b => by rw [eV, up1_ne a, up1_ne b, up1_ne a]
  have f0 : ∀ i, i ≠ 2 → i ≠ 3 → V' 0 i = V 0 i := fun i a b => by rw [eV, up1_oi b, up1_ne (by decide), up1_oi a, g 0 (by omega) (by omega)]
  have f02 : V' 0 2 = nI s := by rw [eV, up1_oi (by decide), up1_ne (by decide), up1_eq]
  have f03 : V' 0 3 = V 0 3 + nI 1 := by rw [eV, up1_eq, up1_ne (by decide), up1_oi (by decide), g 0 (by omega) (by omega)]
  have f3 : ∀ j, V' 3 j = if j = (n + p) % 8 then nI (16 * s + w) else V 3 j := fun j => by
    rw [eV, up1_ne (by decide), up1_at, up1_ne (by decide), g 3 (by omega) (by omega)]
    by_cases c : j = (n + p) % 8
    · rw [if_pos ⟨rfl, c⟩, if_pos c]
    · rw [if_neg (fun z => c z.2), if_neg c]
  have fr : ∀ c, c ≠ 0 → c ≠ 3 → c < 25 → V' c = V c := fun c a b d => by rw [f c a b, g c (by omega) (by omega)]
  have mj := @goM_at M s p (nI (16 * s + w)) hs (by omega) e9
  refine ⟨w, hw, w1, w2, rfl, ⟨?_, ring_of h2 (fr 4 (by decide) (by decide) (by decide)) (fr 5 (by decide) (by decide) (by decide)) (fr 6 (by decide) (by decide) (by decide)), listM_of h3 ?_ ?_, Hld_of h4 (fr 2 (by decide) (by decide) (by decide)) ?_, ?_, ⟨by omega, by omega, ?_, ?_, ?_, ?_⟩, Nts_of h7 (fr 8 (by decide) (by decide) (by decide)) (fr 9 (by decide) (by decide) (by decide)) (fr 10 (by decide) (by decide) (by decide)) ?_⟩, fr, f0, f03, ?_⟩
  · intro c i hd
    have hr := ps_rng hd
    by_cases c0 : c = 0
    · subst c0
      have hi : i = 0 ∨ i = 1 ∨ i = 2 ∨ i = 4 := by unfold DM at hd; omega
      by_cases c2 : i = 2
      · subst c2
        have hp2 : ps 0 2 = 8 := rfl
        rw [f02, hp2, mj, if_neg (show ¬ (8 : Nat) = 9 by decide), if_neg (show ¬ (8 : Nat) = 149 + p by omega), if_pos rfl]
      · have hx : ps 0 i = 3 ∨ ps 0 i = 4 ∨ ps 0 i = 7 := by
          rcases hi with rfl | rfl | rfl | rfl
          · exact Or.inl rfl
          · exact Or.inr (Or.inl rfl)
          · exact absurd rfl c2
          · exact Or.inr (Or.inr rfl)
        rw [f0 i c2 (by omega), mj, if_neg (by omega), if_neg (by omega), if_neg (by omega), if_neg (by omega), if_neg (by omega)]
        exact h1 0 i hd
    · by_cases c27 : c = 27 + s
      · have hi : i = 0 := by unfold DM at hd; omega
        subst hi
        have hp2 : ps c 0 = 11 + s := by
          rw [c27]
          match s, hs with
          | 0, _ => rfl
          | 1, _ => rfl
        rw [c27, f _ (by omega) (by omega), g27, ← c27, hp2, mj, if_neg (by omega), if_neg (by omega), if_neg (by omega), if_pos rfl]
        have h9 := h1 c 0 hd
        rw [hp2, c27, cn2] at h9
        rw [← h9, pk_sub cn0]
      · have hx : ps c i ≠ 8 ∧ ps c i ≠ 11 + s := by
          constructor
          · intro e; have := ps_inj hd (show DM 0 2 by decide) e; omega
          · intro e
            have hD : DM (27 + s) 0 := by unfold DM; omega
            have hp2 : ps (27 + s) 0 = 11 + s := by
              match s, hs with
              | 0, _ => rfl
              | 1, _ => rfl
            have := ps_inj hd hD (e.trans hp2.symm); omega
        rw [f c c0 (by unfold DM at hd; omega), g c c27 (by unfold DM at hd; omega), mj, if_neg (by omega), if_neg (by omega), if_neg hx.1, if_neg hx.2, if_neg (by omega)]
        exact h1 c i hd
  · rw [mj, if_neg (by decide), if_neg (by omega), if_neg (by decide), if_neg (by omega), if_neg (by omega)]
  · intro j hj
    rw [mj, if_neg (by omega), if_neg (by omega), if_neg (by omega), if_neg (by omega), if_neg (by omega)]
  · intro j a b
    rw [mj, if_neg (by omega), if_neg (by omega), if_neg (by omega), if_neg (by omega), if_neg (by omega)]
  · intro u hu
    by_cases c : u = s
    · subst c
      refine ⟨cn - 1, by omega, by rw [f _ (by omega) (by omega)]; exact g27, fun j hj => ?_⟩
      obtain ⟨x, hx, x1, x2⟩ := cn3 (j + 1) (by omega)
      refine ⟨x, hx, ?_, ?_⟩
      · rw [f _ (by omega) (by omega), g25, if_pos hj]; exact x1
      · rw [mj, if_neg (by omega), if_neg (by omega), if_neg (by omega), if_neg (by omega), if_pos (by omega)]
        exact x2
    · obtain ⟨k, k1, k2, k3⟩ := h5 u hu
      refine ⟨k, k1, by rw [f _ (by omega) (by omega), g _ (by omega) (by omega)]; exact k2, fun j hj => ?_⟩
      obtain ⟨x, hx, x1, x2⟩ := k3 j hj
      refine ⟨x, hx, by rw [f _ (by omega) (by omega), g _ (by omega) (by omega)]; exact x1, ?_⟩
      rw [mj, if_neg (by omega), if_neg (by omega), if_neg (by omega), if_neg (by omega), if_neg (by omega)]
      exact x2
  · rw [fr 7 (by decide) (by decide) (by decide)]; exact p3
  · rw [f03, p4, nI_add, Nat.add_assoc]
  · rw [mj, if_pos rfl, p5, nI_add]
  · intro j hj
    rw [f3, mj]
    by_cases c : j = p
    · rw [c, if_pos rfl, if_neg (show ¬ 149 + p = 9 by omega), if_pos rfl]
    · rw [if_neg (show ¬ (n + j) % 8 = (n + p) % 8 by omega), if_neg (show ¬ 149 + j = 9 by omega), if_neg (show ¬ 149 + j = 149 + p by omega), if_neg (show ¬ 149 + j = 8 by omega), if_neg (show ¬ 149 + j = 11 + s by omega), if_neg (show ¬ (109 + 20 * s ≤ 149 + j ∧ 149 + j < 109 + 20 * s + 19) by omega)]
      exact p6 j (by omega)
  · intro j a b
    rw [mj, if_neg (by omega), if_neg (by omega), if_neg (by omega), if_neg (by omega), if_neg (by omega)]
  · unfold wtN
    have e2 : tN (V' (27 + s) 0) + 1 = tN (V (27 + s) 0) := by rw [f _ (by omega) (by omega), g27, ec, tN_nI (by omega)]; omega
    match s, hs with
    | 0, _ =>
      have e3 : V' 28 = V 28 := by rw [f 28 (by decide) (by decide)]; exact g 28 (by decide) (by decide)
      rw [e3]
      have e4 : tN (V' 27 0) + 1 = tN (V 27 0) := e2
      omega
    | 1, _ =>
      have e3 : V' 27 = V 27 := by rw [f 27 (by decide) (by decide)]; exact g 27 (by decide) (by decide)
      rw [e3]
      have e4 : tN (V' 28 0) + 1 = tN (V 28 0) := e2
      omega
set_option maxHeartbeats 4000000 in
/-- the waiter lets a word go, if one waits -/
theorem R_go {V M : Nat → Nat → Int32} {L : List (Nat × Nat)} {n p : Nat} (h : Rel V (M 1) L n p) (hp : p + 1 < 8) (hb : n + p + 1 < 2 ^ 30) (hr : M 1 76 ≠ 0) (hw : 0 < wtN V) :
    ∃ w M', w < 32 ∧ (C2_letOneGo V).1 = nI w ∧ Rel (C2_letOneGo V).2 (M' 1) L n (p + 1) ∧ C8_letGo M = C8_offer M' 0 (nI w) ∧ (∀ c, c ≠ 0 → c ≠ 3 → c < 25 → (C2_letOneGo V).2 c = V c) ∧ (∀ i, i ≠ 2 → i ≠ 3 → (C2_letOneGo V).2 0 i = V 0 i) ∧ (C2_letOneGo V).2 0 3 = V 0 3 + nI 1 ∧ wtN (C2_letOneGo V).2 + 1 = wtN V := by
  have m11 : V 27 0 = M 1 11 := R_eq h (by decide)
  have m12 : V 28 0 = M 1 12 := R_eq h (by decide)
  have m2 : V 1 2 = M 1 2 := R_eq h (by decide)
  have m8 : V 0 2 = M 1 8 := R_eq h (by decide)
  obtain ⟨c0, a0, a1, -⟩ := h.2.2.2.2.1 0 (by decide)
  obtain ⟨c1, b0, b1, -⟩ := h.2.2.2.2.1 1 (by decide)
  have a1 : V 27 0 = nI c0 := a1
  have b1 : V 28 0 = nI c1 := b1
  have ew : wtN V = c0 + c1 := by unfold wtN; rw [a1, b1, tN_nI (by omega), tN_nI (by omega)]
  have z0 : (M 1 11 = 0) ↔ c0 = 0 := by rw [← m11, a1]; exact nI_eq0 (by omega)
  have z1 : (M 1 12 = 0) ↔ c1 = 0 := by rw [← m12, b1]; exact nI_eq0 (by omega)
  have z1l : (M 1 12 ≤ 0) ↔ c1 = 0 := by rw [← m12, b1]; exact nI_le0 (by omega)
  have zs : ¬ (M 1 11 + M 1 12) = 0 := by rw [← m11, ← m12, a1, b1, nI_add, nI_eq0 (by omega)]; omega
  have one : ∀ s, s < 2 → C2_chosenSender V = nI s → (s = 0 → c0 ≠ 0) → (s = 1 → c1 ≠ 0) → C8_letGo M = C8_offer (goM M s (nI (16 * s) + M 1 (109 + 20 * s))) 0 (nI (16 * s) + M 1 (109 + 20 * s)) → ∃ w M', w < 32 ∧ (C2_letOneGo V).1 = nI w ∧ Rel (C2_letOneGo V).2 (M' 1) L n (p + 1) ∧ C8_letGo M = C8_offer M' 0 (nI w) ∧ (∀ c, c ≠ 0 → c ≠ 3 → c < 25 → (C2_letOneGo V).2 c = V c) ∧ (∀ i, i ≠ 2 → i ≠ 3 → (C2_letOneGo V).2 0 i = V 0 i) ∧ (C2_letOneGo V).2 0 3 = V 0 3 + nI 1 ∧ wtN (C2_letOneGo V).2 + 1 = wtN V := by
    intro s hs hch hc0 hc1 hM
    have hcs : V (27 + s) 0 ≠ nI 0 := by
      rcases (show s = 0 ∨ s = 1 by omega) with rfl | rfl
      · intro e
        exact hc0 rfl ((nI_eq (by omega) (by decide)).mp (a1.symm.trans e))
      · intro e
        exact hc1 rfl ((nI_eq (by omega) (by decide)).mp (b1.symm.trans e))
    obtain ⟨w, hw, -, w2, e1, hR, f1, f2, f3, f4⟩ := R_goS h hp hb hs hch hcs
    rw [w2, nI_add] at hM
    exact ⟨16 * s + w, goM M s (nI (16 * s + w)), by omega, e1, hR, hM, f1, f2, f3, f4⟩
  have hcs : C2_chosenSender V = if c1 = 0 then nI 0 else if c0 = 0 then nI 1 else if M 1 2 = 0 then (if M 1 8 = 0 then nI 1 else nI 0) else nI 0 := by
    unfold C2_chosenSender
    rw [m2, m8, a1, b1]
    by_cases q1 : c1 = 0
    · rw [if_pos ((nI_eq0 (by omega)).mpr q1), if_pos q1]
    · rw [if_neg (fun z => q1 ((nI_eq0 (by omega)).mp z)), if_neg q1]
      by_cases q0 : c0 = 0
      · rw [if_pos ((nI_eq0 (by omega)).mpr q0), if_pos q0]
      · rw [if_neg (fun z => q0 ((nI_eq0 (by omega)).mp z)), if_neg q0]
  by_cases q0 : c0 = 0
  · have q1 : ¬ c1 = 0 := by omega
    refine one 1 (by decide) (by rw [hcs, if_neg q1, if_pos q0]) (fun e => absurd e (by decide)) (fun _ => q1) ?_
    unfold C8_letGo
    rw [if_neg hr, if_neg zs, if_pos (z0.mpr q0)]
    rfl
  · by_cases q1 : c1 = 0
    · refine one 0 (by decide) (by rw [hcs, if_pos q1]) (fun _ => q0) (fun e => absurd e (by decide)) ?_
      unfold C8_letGo
      rw [if_neg hr, if_neg zs, if_neg (fun z => q0 (z0.mp z)), if_pos (z1l.mpr q1)]
      rfl
    · by_cases q2 : M 1 2 = 0
      · by_cases q8 : M 1 8 = 0
        · refine one 1 (by decide) (by rw [hcs, if_neg q1, if_neg q0, if_pos q2, if_pos q8]) (fun e => absurd e (by decide)) (fun _ => q1) ?_
          unfold C8_letGo
          rw [if_neg hr, if_neg zs, if_neg (fun z => q0 (z0.mp z)), if_neg (fun z => q1 (z1l.mp z)), if_pos q2, if_pos q8]
          rfl
        · refine one 0 (by decide) (by rw [hcs, if_neg q1, if_neg q0, if_pos q2, if_neg q8]) (fun _ => q0) (fun e => absurd e (by decide)) ?_
          unfold C8_letGo
          rw [if_neg hr, if_neg zs, if_neg (fun z => q0 (z0.mp z)), if_neg (fun z => q1 (z1l.mp z)), if_pos q2, if_neg q8]
          rfl
      · refine one 0 (by decide) (by rw [hcs, if_neg q1, if_neg q0, if_neg q2]) (fun _ => q0) (fun e => absurd e (by decide)) ?_
        unfold C8_letGo
        rw [if_neg hr, if_neg zs, if_neg (fun z => q0 (z0.mp z)), if_neg (fun z => q1 (z1l.mp z)), if_neg q2]
        rfl
/-- none waits: nothing changes -/
theorem go_none {V : Nat → Nat → Int32} (h : V 27 0 = nI 0) (h2 : V 28 0 = nI 0) : (C2_letOneGo V).1 = (-1) ∧ (C2_letOneGo V).2 = V := by
  have es : tN (C2_chosenSender V) = 0 := by unfold C2_chosenSender; rw [if_pos (show V 28 0 = 0 from h2)]; rfl
  have hR : C5_removeFirst (rwU V 0) = ((-1), rwU V 0) := by
    exact if_neg (show ¬ 0 < tN (V 27 0) by rw [h]; decide)
  have e : C2_letOneGo V = ((-1), rwS V 0 (rwU V 0)) := by
    unfold C2_letOneGo
    try dsimp only
    rw [es, hR]
    try dsimp only
    rw [if_pos rfl]
  rw [e]
  refine ⟨rfl, ?_⟩
  show setC (setC V 27 (V 27)) 25 (V 25) = V
  rw [setC_self, setC_self]
