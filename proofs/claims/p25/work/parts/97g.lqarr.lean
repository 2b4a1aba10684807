/-! one change arrives; the law's step and the same on the numbers -/
def pG (G : Nat → Nat → Int32) (r : Nat) : Nat → Nat → Int32 :=
  let V1 := up1 G 0 4 (G 6 r)
  let V2 := up1 V1 0 10 ((V1 0 10) - (nI 1))
  let V3 := sh2 V2 r (tN (G 0 10) - 1)
  up1 V3 0 7 ((V3 0 7) + (nI 1))
def pM (M : Nat → Nat → Int32) (r : Nat) : Nat → Nat → Int32 :=
  let V1 := up1 M 1 4 (M 1 ((319 + (4 * r)) + 0))
  let V2 := up1 V1 1 10 ((V1 1 10) - (nI 1))
  let V3 := setC V2 1 (sh4 (V2 1) (319 + (4 * r)) (319 + (4 * (tN (M 1 10) - 1))))
  up1 V3 1 7 ((V3 1 7) + (nI 1))
theorem pG_1 (G : Nat → Nat → Int32) (r : Nat) : (∀ j, j ≠ 4 → j ≠ 7 → j ≠ 10 → pG G r 0 j = G 0 j) ∧ pG G r 0 4 = G 6 r ∧ pG G r 0 7 = G 0 7 + nI 1 ∧ pG G r 0 10 = G 0 10 - nI 1 ∧ pG G r 6 = shr (G 6) r (tN (G 0 10) - 1) ∧ pG G r 7 = shr (G 7) r (tN (G 0 10) - 1) ∧ ∀ c, c ≠ 0 → c ≠ 6 → c ≠ 7 → pG G r c = G c := by
  obtain ⟨V2, h2⟩ : ∃ z, up1 (up1 G 0 4 (G 6 r)) 0 10 ((up1 G 0 4 (G 6 r) 0 10) - (nI 1)) = z := ⟨_, rfl⟩
  obtain ⟨V3, h3⟩ : ∃ z, sh2 V2 r (tN (G 0 10) - 1) = z := ⟨_, rfl⟩
  have e : pG G r = up1 V3 0 7 (V3 0 7 + nI 1) := by
    unfold pG
    try dsimp only
    rw [h2, h3]
  have c2 : ∀ c, c ≠ 0 → V2 c = G c := fun c z => by
    rw [← h2]
    show setC _ 0 _ c = _
    rw [setC_ne z]
    exact setC_ne z
  have c3 : ∀ c, c ≠ 6 → c ≠ 7 → V3 c = V2 c := fun c z6 z7 => by
    rw [← h3]
    unfold sh2
    rw [setC_ne z7, setC_ne z6]
  have ec : ∀ c, c ≠ 0 → pG G r c = V3 c := fun c z => by
    rw [e]
    exact setC_ne z
  have q0 : ∀ j, V3 0 j = V2 0 j := fun j => by rw [c3 0 (by decide) (by decide)]
  refine ⟨fun j a b d => ?_, ?_, ?_, ?_, ?_, ?_, fun c n0 n6 n7 => ?_⟩
  · rw [e, up1_in b, q0, ← h2, up1_in d, up1_in a]
  · rw [e, up1_in (by decide), q0, ← h2, up1_in (by decide), up1_eq]
  · rw [e, up1_eq, q0, ← h2, up1_in (by decide), up1_in (by decide)]
  · rw [e, up1_in (by decide), q0, ← h2, up1_eq, up1_in (by decide)]
  · rw [ec 6 (by decide), ← h3]
    unfold sh2
    rw [setC_ne (by decide), setC_eq, c2 6 (by decide)]
  · rw [ec 7 (by decide), ← h3]
    unfold sh2
    rw [setC_eq, c2 7 (by decide)]
  · rw [ec c n0, c3 c n6 n7, c2 c n0]
theorem pM_1 (M : Nat → Nat → Int32) (r : Nat) : (∀ j, j < 319 → j ≠ 4 → j ≠ 7 → j ≠ 10 → pM M r 1 j = M 1 j) ∧ pM M r 1 4 = M 1 ((319 + (4 * r)) + 0) ∧ pM M r 1 7 = M 1 7 + nI 1 ∧ pM M r 1 10 = M 1 10 - nI 1 ∧ ∀ j, 319 ≤ j → pM M r 1 j = if 319 + 4 * r ≤ j ∧ j < 319 + 4 * (tN (M 1 10) - 1) then M 1 (j + 4) else M 1 j := by
  obtain ⟨V2, h2⟩ : ∃ z, up1 (up1 M 1 4 (M 1 ((319 + (4 * r)) + 0))) 1 10 ((up1 M 1 4 (M 1 ((319 + (4 * r)) + 0)) 1 10) - (nI 1)) = z := ⟨_, rfl⟩
  obtain ⟨V3, h3⟩ : ∃ z, setC V2 1 (sh4 (V2 1) (319 + (4 * r)) (319 + (4 * (tN (M 1 10) - 1)))) = z := ⟨_, rfl⟩
  have e : pM M r = up1 V3 1 7 (V3 1 7 + nI 1) := by
    unfold pM
    try dsimp only
    rw [h2, h3]
  have a2 : ∀ j, j ≠ 4 → j ≠ 10 → V2 1 j = M 1 j := fun j x y => by rw [← h2, up1_in y, up1_in x]
  have a3 : ∀ j, j < 319 → V3 1 j = V2 1 j := fun j z => by
    rw [← h3, setC_eq]
    exact if_neg (by omega)
  refine ⟨fun j z a b d => ?_, ?_, ?_, ?_, fun j z => ?_⟩
  · rw [e, up1_in b, a3 j z, a2 j a d]
  · rw [e, up1_in (by decide), a3 4 (by decide), ← h2, up1_in (by decide), up1_eq]
  · rw [e, up1_eq, a3 7 (by decide), a2 7 (by decide) (by decide)]
  · rw [e, up1_in (by decide), a3 10 (by decide), ← h2, up1_eq, up1_in (by decide)]
  · rw [e, up1_in (by omega), ← h3, setC_eq]
    show (if 319 + (4 * r) ≤ j ∧ j < 319 + (4 * (tN (M 1 10) - 1)) then V2 1 (j + 4) else V2 1 j) = _
    rw [a2 j (by omega) (by omega), a2 (j + 4) (by omega) (by omega)]
theorem S_pop {G M : Nat → Nat → Int32} {n r : Nat} (h : lqLS G M (n + 1)) (hn : n ≤ 64) (hr : r < tN (M 1 10)) : lqLS (pG G r) (pM M r) n := by
  obtain ⟨g0, g4, g7, g10, g6', g7', gc⟩ := pG_1 G r
  obtain ⟨m0, m4, m7, m10, mC⟩ := pM_1 M r
  obtain ⟨⟨h1, h2, h3, h4, h5, h6⟩, rn⟩ := h
  have q : ∀ j, j < 13 → G 0 j = M 1 j := fun j hj => h1 0 j (Or.inl ⟨rfl, hj⟩)
  obtain ⟨s1, s2, s3⟩ := tN_sub (x := M 1 10) (by omega)
  have l31 := tN_lt (M 1 10)
  refine ⟨⟨?_, LHd_of h2 (fun k _ => by rw [gc 3 (by decide) (by decide) (by decide)]) (fun j a b => m0 j (by omega) (by omega) (by omega) (by omega)), LRw_of h3 (gc 4 (by decide) (by decide) (by decide)) (m0 11 (by decide) (by decide) (by decide) (by decide)) (m0 12 (by decide) (by decide) (by decide) (by decide)) (fun j a b => m0 j (by omega) (by omega) (by omega) (by omega)) rn.2.2.2.1 rn.2.2.2.2, LPn_of h4 (gc 5 (by decide) (by decide) (by decide)) (m0 9 (by decide) (by decide) (by decide) (by decide)) (fun j a b => m0 j (by omega) (by omega) (by omega) (by omega)) rn.2.2.1, ?_, LNt_of h6 (gc 8 (by decide) (by decide) (by decide)) (m0 5 (by decide) (by decide) (by decide) (by decide)) (fun j a b => m0 j (by omega) (by omega) (by omega) (by omega))⟩, ?_⟩
  · intro c i hd
    by_cases z : c = 0
    · subst z
      show pG G r 0 i = pM M r 1 i
      have hi : i < 13 := by unfold DL at hd; omega
      by_cases a4 : i = 4
      · subst a4; rw [g4, m4]; exact (h5 r hr).1
      · by_cases a7 : i = 7
        · subst a7; rw [g7, m7, q 7 (by decide)]
        · by_cases a10 : i = 10
          · subst a10; rw [g10, m10, q 10 (by decide)]
          · rw [g0 i a4 a7 a10, m0 i (by omega) a4 a7 a10]
            exact q i hi
    · have hp2 := lp_pl hd
      have ne : ∀ j, j < 13 → pl c i ≠ j := fun j hj e => z (pl_inj hd (show DL 0 j from Or.inl ⟨rfl, hj⟩) (by rw [e]; rfl)).1
      rw [gc c z (by unfold DL at hd; omega) (by unfold DL at hd; omega), m0 _ (by omega) (ne 4 (by decide)) (ne 7 (by decide)) (ne 10 (by decide))]
      exact h1 c i hd
  · intro j hj
    rw [m10, s3] at hj
    rw [g6', g7', q 10 (by decide)]
    have mm : ∀ f, f < 4 → pM M r 1 ((319 + (4 * j)) + f) = if r ≤ j then M 1 ((319 + (4 * (j + 1))) + f) else M 1 ((319 + (4 * j)) + f) := fun f hf => by
      rw [mC _ (by omega)]
      by_cases y : r ≤ j
      · rw [if_pos (by omega), if_pos y, show 319 + 4 * j + f + 4 = (319 + (4 * (j + 1))) + f by omega]
      · rw [if_neg (by omega), if_neg y]
    rw [mm 0 (by decide), mm 1 (by decide), mm 2 (by decide), mm 3 (by decide)]
    by_cases y : r ≤ j
    · rw [if_pos y, if_pos y, if_pos y, if_pos y, show shr (G 6) r (tN (M 1 10) - 1) j = G 6 (j + 1) from if_pos ⟨y, hj⟩, show shr (G 7) r (tN (M 1 10) - 1) j = G 7 (j + 1) from if_pos ⟨y, hj⟩]
      exact h5 (j + 1) (by omega)
    · rw [if_neg y, if_neg y, if_neg y, if_neg y, show shr (G 6) r (tN (M 1 10) - 1) j = G 6 j from if_neg (fun z => y z.1), show shr (G 7) r (tN (M 1 10) - 1) j = G 7 j from if_neg (fun z => y z.1)]
      exact h5 j (by omega)
  · refine ⟨?_, ?_, ?_, ?_, ?_⟩
    · rw [m10, s2]
      have := inL rn.1
      exact vp_in_nI (by omega) (by omega)
    · rw [m0 3 (by decide) (by decide) (by decide) (by decide)]; exact rn.2.1
    · rw [m0 9 (by decide) (by decide) (by decide) (by decide)]; exact rn.2.2.1
    · rw [m0 11 (by decide) (by decide) (by decide) (by decide)]; exact rn.2.2.2.1
    · rw [m0 12 (by decide) (by decide) (by decide) (by decide)]; exact rn.2.2.2.2
def arrF (G V4 : Nat → Nat → Int32) (lk wr vl : Nat) : Nat → Nat → Int32 :=
  if wr = 0 then (if vl = 0 then CL_makes (up1 (up1 V4 2 ((6 * lk) + 3) (nI vl)) 2 ((6 * lk) + 4) (nI 0)) lk 1 (nI 0) (nI 0) else if lk = tN (G 0 3) then CL_notes (up1 V4 2 ((6 * lk) + 3) (nI vl)) else if up1 V4 2 ((6 * lk) + 3) (nI vl) 3 (21 + lk) < 0 then CL_takes (up1 V4 2 ((6 * lk) + 3) (nI vl)) lk else up1 (up1 V4 2 ((6 * lk) + 3) (nI vl)) 3 ((3 * lk) + 1) (nI 1))
  else if wr = 1 then CL_answered (up1 V4 2 ((6 * lk) + 1) (nI vl)) lk (nI vl) else up1 V4 2 ((6 * lk) + 5) (nI vl)
theorem arr_eq (G : Nat → Nat → Int32) (r : Nat) : CL_arr G r = arrF G (pG G r) ((tN (G 7 r)) / 96) (((tN (G 7 r)) / 32) % 3) ((tN (G 7 r)) % 32) := rfl
def arrM (V4 : Nat → Nat → Int32) (lk : Nat) (wr vl : Int32) : Nat → Nat → Int32 :=
  if wr = 0 then C8_requestArrives V4 lk vl else if wr = nI 1 then C8_answerArrives V4 lk vl else C8_setEnd V4 lk 5 vl
theorem arrM_eq (M : Nat → Nat → Int32) (r : Nat) : C8_arrive M r = arrM (pM M r) (tN (M 1 ((319 + (4 * r)) + 1))) (M 1 ((319 + (4 * r)) + 2)) (M 1 ((319 + (4 * r)) + 3)) := rfl
theorem reqArr_eq (M : Nat → Nat → Int32) (k : Nat) (v : Int32) : C8_requestArrives M k v = if v = 0 then C8_answer (C8_setEnd M k 1 v) k (nI 0) (nI 0) else if k = tN (M 1 3) then C8_note (C8_setEnd M k 1 v) else if C8_setEnd M k 1 v 1 (97 + k) = 0 then C8_take (C8_setEnd M k 1 v) k else up1 (C8_setEnd M k 1 v) 1 (83 + k) (nI 1) := rfl
/-- what an arrival needs besides: the link is one of the line's, a bit is a bit, what is noted was offered -/
def Nr (m : Nat → Int32) (r : Nat) : Prop := ∃ nS lk wr vl, nS ≤ 6 ∧ m 3 = nI nS ∧ lk ≤ nS ∧ wr < 3 ∧ vl < 32 ∧ m ((319 + (4 * r)) + 1) = nI lk ∧ m ((319 + (4 * r)) + 2) = nI wr ∧ m ((319 + (4 * r)) + 3) = nI vl ∧ (wr ≠ 2 → vl ≤ 1) ∧ (wr = 0 → vl = 1 → lk = nS → 1 ≤ tN (m 9))
theorem ne65 {j kk p : Nat} (hp : p < 6) (hne : p ≠ 5) : (34 + (6 * j)) + 5 ≠ (34 + (6 * kk)) + p := by omega
theorem S_arr {G M : Nat → Nat → Int32} {n r : Nat} (h : lqLS G M (n + 1)) (hn : n ≤ 57) (hr : r < tN (M 1 10)) (nd : Nd (M 1)) (nr : Nr (M 1) r) : lqLS (CL_arr G r) (C8_arrive M r) (n + 4) := by
  obtain ⟨nS, lk, wr, vl, hS, e3, hlk, hwr, hvl, r1, r2, r3, hbit, hpn⟩ := nr
  obtain ⟨-, k, w, v, k7, w3, v32, s1, s2, s3, sg⟩ := h.1.2.2.2.2.1 r hr
  have ek : k = lk := by have := s1.symm.trans r1; exact (nI_eq (by omega) (by omega)).mp this
  have ew : w = wr := by have := s2.symm.trans r2; exact (nI_eq (by omega) (by omega)).mp this
  have ev : v = vl := by have := s3.symm.trans r3; exact (nI_eq (by omega) (by omega)).mp this
  subst ek; subst ew; subst ev
  have t7 : tN (G 7 r) = (k * 3 + w) * 32 + v := by rw [sg]; exact tN_nI (by omega)
  have P := S_pop h (by omega) hr
  obtain ⟨m0, -, -, -, -⟩ := pM_1 M r
  have p3 : pM M r 1 3 = nI nS := by rw [m0 3 (by decide) (by decide) (by decide) (by decide)]; exact e3
  have p9 : pM M r 1 9 = M 1 9 := m0 9 (by decide) (by decide) (by decide) (by decide)
  have g3 : tN (G 0 3) = nS := by rw [LQ_q h.1 (by decide), e3]; exact tN_nI (by omega)
  have ndp : ∀ (kk p : Nat) (x : Int32), kk < 7 → p < 6 → (p = 5 → False) → Nd (C8_setEnd (pM M r) kk p x 1) := fun kk p x hkk hp5 hne0 => by
    have hne : p ≠ 5 := hne0
    have me : ∀ j, j < 319 → j ≠ 4 → j ≠ 7 → j ≠ 10 → j ≠ (34 + (6 * kk)) + p → C8_setEnd (pM M r) kk p x 1 j = M 1 j := fun j a b c d f => by
      show up1 (pM M r) 1 _ _ 1 j = _
      rw [up1_in f, m0 j a b c d]
    obtain ⟨q1, ⟨a, a1, a2, a3⟩, ⟨b, b1, b2, b3⟩, ⟨y, y1, y2⟩, q5⟩ := nd
    refine ⟨by rw [me 9 (by omega) (by omega) (by omega) (by omega) (by omega)]; exact q1, ⟨a, a1, by rw [me 11 (by omega) (by omega) (by omega) (by omega) (by omega)]; exact a2, by rw [me 109 (by omega) (by omega) (by omega) (by omega) (by omega)]; exact a3⟩, ⟨b, b1, by rw [me 12 (by omega) (by omega) (by omega) (by omega) (by omega)]; exact b2, by rw [me 129 (by omega) (by omega) (by omega) (by omega) (by omega)]; exact b3⟩, ⟨y, y1, by rw [me 2 (by omega) (by omega) (by omega) (by omega) (by omega)]; exact y2⟩, fun j hj => ?_⟩
    rw [me ((34 + (6 * j)) + 5) (by omega) (by omega) (by omega) (by omega) (ne65 hp5 hne)]
    exact q5 j hj
  rw [arr_eq, arrM_eq, r1, r2, r3, t7, tN_nI (show k < 2 ^ 31 by omega), show ((k * 3 + w) * 32 + v) / 96 = k by omega, show (((k * 3 + w) * 32 + v) / 32) % 3 = w by omega, show ((k * 3 + w) * 32 + v) % 32 = v by omega]
  unfold arrF arrM
  have wk : ∀ {G M : Nat → Nat → Int32} {a b : Nat}, lqLS G M a → a ≤ b → lqLS G M b := fun q z => ⟨q.1, vp_mono q.2.1 z, q.2.2⟩
  rcases (show w = 0 ∨ w = 1 ∨ w = 2 by omega) with rfl | rfl | rfl
  · rw [if_pos (show (0 : Nat) = 0 from rfl), if_pos (show nI 0 = 0 from rfl), reqArr_eq, p3, tN_nI (show nS < 2 ^ 31 by omega), g3]
    have E := S_end (f := 3) (x := nI v) P k7 (by decide) (show pe6 3 = 1 from rfl)
    have hv := hbit (by decide)
    have NE := ndp k 1 (nI v) k7 (by decide) (by decide)
    have mE : ∀ j, j ≠ (34 + (6 * k)) + 1 → C8_setEnd (pM M r) k 1 (nI v) 1 j = pM M r 1 j := fun j z => up1_in z
    by_cases z : v = 0
    · subst z
      rw [if_pos (show (0 : Nat) = 0 from rfl), if_pos (show nI 0 = 0 from rfl)]
      exact wk (S_make (w := 1) (v := 0) (x := nI 0) (S_end (f := 4) (x := nI 0) E k7 (by decide) (show pe6 4 = 2 from rfl)) (by omega) k7 (by decide) (by decide)) (by omega)
    · have z1 : v = 1 := by omega
      rw [if_neg z, if_neg (show ¬ nI v = 0 from fun e => z ((nI_eq0 (by omega)).mp e))]
      by_cases zl : k = nS
      · rw [if_pos zl, if_pos zl]
        exact wk (SL_note E (by omega) (by rw [mE 9 (by omega), p9]; exact hpn rfl z1 zl) (by rw [mE 3 (by omega)]; exact p3) (by omega)) (by omega)
      · rw [if_neg zl, if_neg zl]
        rcases E.1.2.1 k (by omega) with ⟨x1, x2⟩ | ⟨ww, w1, x1, x2, x3⟩
        · rw [if_pos (show up1 (pG G r) 2 ((6 * k) + 3) (nI v) 3 (21 + k) < 0 by rw [x1]; decide), if_pos (show C8_setEnd (pM M r) k 1 (nI v) 1 (97 + k) = 0 from x2)]
          obtain ⟨w5, w51, w52⟩ := NE.2.2.2.2 k k7
          exact wk (SL_take E (by omega) (by omega) w51 w52) (by omega)
        · rw [if_neg (show ¬ up1 (pG G r) 2 ((6 * k) + 3) (nI v) 3 (21 + k) < 0 by rw [x1]; exact nI_pos (by omega)), if_neg (show ¬ C8_setEnd (pM M r) k 1 (nI v) 1 (97 + k) = 0 by rw [x2]; decide)]
          exact wk (S_up (x := nI 1) E (pl_f1 k7).1 (pl_f1 k7).2 (fun z => absurd z (by decide))) (by omega)
  · rw [if_neg (show ¬ (1 : Nat) = 0 by decide), if_pos (show (1 : Nat) = 1 from rfl), if_neg (show ¬ nI 1 = 0 by decide), if_pos (show nI 1 = nI 1 from rfl)]
    have E := S_end (f := 1) (x := nI v) P k7 (by decide) (show pe6 1 = 3 from rfl)
    exact S_answered rfl E (by omega) k7 (hbit (by decide)) (ndp k 3 (nI v) k7 (by decide) (by decide))
  · rw [if_neg (show ¬ (2 : Nat) = 0 by decide), if_neg (show ¬ (2 : Nat) = 1 by decide), if_neg (show ¬ nI 2 = 0 by decide), if_neg (show ¬ nI 2 = nI 1 by decide)]
    exact wk (S_end (f := 5) (x := nI v) P k7 (by decide) (show pe6 5 = 5 from rfl)) (by omega)
