/-! the receiver notes; the law's step and the same on the numbers -/
theorem tN_sub {x : Int32} (h : 1 ≤ tN x) : x = nI (tN x) ∧ x - nI 1 = nI (tN x - 1) ∧ tN (x - nI 1) = tN x - 1 := by
  have c : ¬ x < 0 := fun z => by
    have h1 : x.toInt < (0 : Int32).toInt := Int32.lt_iff_toInt_lt.mp z
    have h2 : (0 : Int32).toInt = 0 := by decide
    have h3 : 1 ≤ x.toInt.toNat := h
    omega
  have e := inG c
  have l := tN_lt x
  have q : x - nI 1 = nI (tN x - 1) := by
    have z : nI (tN x) - nI 1 = nI (tN x - 1) := pk_sub h
    rw [← e] at z
    exact z
  exact ⟨e, q, by rw [q, tN_nI (by omega)]⟩
theorem S_noteC {G M G6 M6 : Nat → Nat → Int32} {n : Nat} {w t b : Int32} (h : lqLS G M n) (hp : 1 ≤ tN (M 1 9)) (g0 : ∀ i, i ≠ 5 → i ≠ 6 → i ≠ 9 → G6 0 i = G 0 i) (g05 : G6 0 5 = G 0 5 + nI 1) (g06 : G6 0 6 = G 0 6 + b) (g09 : G6 0 9 = G 0 9 - nI 1) (gc : ∀ c, c ≠ 0 → c ≠ 5 → c ≠ 8 → G6 c = G c) (g5 : ∀ j, j < 19 → G6 5 j = G 5 (j + 1)) (g8 : G6 8 0 = w ∧ G6 8 1 = t ∧ G6 8 2 = b) (mA : ∀ j, j < 149 → j ≠ 5 → j ≠ 6 → j ≠ 9 → M6 1 j = M 1 j) (mB : ∀ j, 319 ≤ j → M6 1 j = M 1 j) (mC : ∀ j, 149 ≤ j → j < 168 → M6 1 j = M 1 (j + 1)) (m5 : M6 1 5 = M 1 5 + nI 1) (m6 : M6 1 6 = M 1 6 + b) (m9 : M6 1 9 = M 1 9 - nI 1) (mN : M6 1 169 = w ∧ M6 1 170 = t ∧ M6 1 171 = b) : lqLS G6 M6 n := by
  obtain ⟨⟨h1, h2, h3, h4, h5, h6⟩, r⟩ := h
  obtain ⟨s1, s2, s3⟩ := tN_sub hp
  have hp20 := r.2.2.1
  refine ⟨⟨?_, LHd_of h2 (fun k _ => by rw [gc 3 (by decide) (by decide) (by decide)]) (fun j a c => mA j (by omega) (by omega) (by omega) (by omega)), LRw_of h3 (gc 4 (by decide) (by decide) (by decide)) (mA 11 (by decide) (by decide) (by decide) (by decide)) (mA 12 (by decide) (by decide) (by decide) (by decide)) (fun j a c => mA j (by omega) (by omega) (by omega) (by omega)) r.2.2.2.1 r.2.2.2.2, ?_, LCh_of h5 (gc 6 (by decide) (by decide) (by decide)) (gc 7 (by decide) (by decide) (by decide)) (mA 10 (by decide) (by decide) (by decide) (by decide)) (fun j a => mB j a), Or.inr (fun i hi => ?_)⟩, ?_⟩
  · intro c i hd
    by_cases z : c = 0
    · subst z
      show G6 0 i = M6 1 i
      have q : ∀ j, j < 13 → G 0 j = M 1 j := fun j hj => h1 0 j (Or.inl ⟨rfl, hj⟩)
      by_cases a5 : i = 5
      · subst a5; rw [g05, m5, q 5 (by decide)]
      · by_cases a6 : i = 6
        · subst a6; rw [g06, m6, q 6 (by decide)]
        · by_cases a9 : i = 9
          · subst a9; rw [g09, m9, q 9 (by decide)]
          · have hi : i < 13 := by unfold DL at hd; omega
            rw [g0 i a5 a6 a9, mA i (by omega) a5 a6 a9]
            exact q i hi
    · have hp := lp_pl hd
      have ne : ∀ j, j < 13 → pl c i ≠ j := fun j hj e => z (pl_inj hd (show DL 0 j from Or.inl ⟨rfl, hj⟩) (by rw [e]; rfl)).1
      rw [gc c z (by unfold DL at hd; omega) (by unfold DL at hd; omega), mA _ (by omega) (ne 5 (by decide)) (ne 6 (by decide)) (ne 9 (by decide))]
      exact h1 c i hd
  · intro j hj
    rw [m9, s3] at hj
    rw [g5 j (by omega), mC (149 + j) (by omega) (by omega)]
    exact h4 (j + 1) (by omega)
  · match i, hi with
    | 0, _ => exact g8.1.trans mN.1.symm
    | 1, _ => exact g8.2.1.trans mN.2.1.symm
    | 2, _ => exact g8.2.2.trans mN.2.2.symm
  · refine ⟨?_, ?_, ?_, ?_, ?_⟩
    · rw [mA 10 (by decide) (by decide) (by decide) (by decide)]; exact r.1
    · rw [mA 3 (by decide) (by decide) (by decide) (by decide)]; exact r.2.1
    · rw [m9, s3]; omega
    · rw [mA 11 (by decide) (by decide) (by decide) (by decide)]; exact r.2.2.2.1
    · rw [mA 12 (by decide) (by decide) (by decide) (by decide)]; exact r.2.2.2.2
/-- the law's state behind the noting, ahead of the answer; the numbers' -/
def nG (G : Nat → Nat → Int32) (w t b : Int32) : Nat → Nat → Int32 :=
  let V3 := up1 (up1 (up1 G 8 0 w) 8 1 t) 8 2 b
  let V4 := setC V3 5 (shl (V3 5) 0 19)
  let V5 := up1 V4 0 9 ((V4 0 9) - (nI 1))
  let V6 := up1 V5 0 5 ((V5 0 5) + (nI 1))
  up1 V6 0 6 ((V6 0 6) + (V6 8 2))
def nM (M : Nat → Nat → Int32) (w b : Int32) : Nat → Nat → Int32 :=
  let V1 := setC M 1 (shl (M 1) 149 19)
  let V2 := up1 V1 1 9 ((V1 1 9) - (nI 1))
  let V3 := setC V2 1 (sh3 (V2 1) 2)
  let V4 := up1 V3 1 169 w
  let V5 := up1 V4 1 170 (V4 1 4)
  let V6 := up1 V5 1 171 b
  let V7 := up1 V6 1 5 ((V6 1 5) + (nI 1))
  up1 V7 1 6 ((V7 1 6) + b)
theorem nM_1 (M : Nat → Nat → Int32) (w b : Int32) : (∀ j, j < 169 → j ≠ 5 → j ≠ 6 → j ≠ 9 → nM M w b 1 j = shl (M 1) 149 19 j) ∧ (∀ j, 319 ≤ j → nM M w b 1 j = shl (M 1) 149 19 j) ∧ nM M w b 1 5 = M 1 5 + nI 1 ∧ nM M w b 1 6 = M 1 6 + b ∧ nM M w b 1 9 = M 1 9 - nI 1 ∧ nM M w b 1 169 = w ∧ nM M w b 1 170 = M 1 4 ∧ nM M w b 1 171 = b := by
  obtain ⟨V2, h2⟩ : ∃ z, up1 (setC M 1 (shl (M 1) 149 19)) 1 9 ((setC M 1 (shl (M 1) 149 19) 1 9) - (nI 1)) = z := ⟨_, rfl⟩
  obtain ⟨V3, h3⟩ : ∃ z, setC V2 1 (sh3 (V2 1) 2) = z := ⟨_, rfl⟩
  have a2 : ∀ j, j ≠ 9 → V2 1 j = shl (M 1) 149 19 j := fun j z => by rw [← h2, up1_in z, setC_eq]
  have lo : ∀ j, j < 149 → shl (M 1) 149 19 j = M 1 j := fun j z => if_neg (by omega)
  have a9 : V2 1 9 = M 1 9 - nI 1 := by rw [← h2, up1_eq, setC_eq, lo 9 (by decide)]
  have a3 : ∀ j, (j < 172 ∨ 319 ≤ j) → V3 1 j = V2 1 j := fun j z => by
    rw [← h3, setC_eq]
    exact if_neg (by omega)
  have e : nM M w b = up1 (up1 (up1 (up1 (up1 V3 1 169 w) 1 170 (up1 V3 1 169 w 1 4)) 1 171 b) 1 5 ((up1 (up1 (up1 V3 1 169 w) 1 170 (up1 V3 1 169 w 1 4)) 1 171 b 1 5) + nI 1)) 1 6 ((up1 (up1 (up1 (up1 V3 1 169 w) 1 170 (up1 V3 1 169 w 1 4)) 1 171 b) 1 5 ((up1 (up1 (up1 V3 1 169 w) 1 170 (up1 V3 1 169 w 1 4)) 1 171 b 1 5) + nI 1) 1 6) + b) := by
    unfold nM
    try dsimp only
    rw [h2, h3]
  rw [e]
  refine ⟨fun j z n5 n6 n9 => ?_, fun j z => ?_, ?_, ?_, ?_, ?_, ?_, ?_⟩
  · rw [up1_in n6, up1_in n5, up1_in (by omega), up1_in (by omega), up1_in (by omega), a3 j (by omega), a2 j n9]
  · rw [up1_in (by omega), up1_in (by omega), up1_in (by omega), up1_in (by omega), up1_in (by omega), a3 j (by omega), a2 j (by omega)]
  · rw [up1_in (by decide), up1_eq, up1_in (by decide), up1_in (by decide), up1_in (by decide), a3 5 (by decide), a2 5 (by decide), lo 5 (by decide)]
  · rw [up1_eq, up1_in (by decide), up1_in (by decide), up1_in (by decide), up1_in (by decide), a3 6 (by decide), a2 6 (by decide), lo 6 (by decide)]
  · rw [up1_in (by decide), up1_in (by decide), up1_in (by decide), up1_in (by decide), up1_in (by decide), a3 9 (by decide), a9]
  · rw [up1_in (by decide), up1_in (by decide), up1_in (by decide), up1_in (by decide), up1_eq]
  · rw [up1_in (by decide), up1_in (by decide), up1_in (by decide), up1_eq, up1_in (by decide), a3 4 (by decide), a2 4 (by decide), lo 4 (by decide)]
  · rw [up1_in (by decide), up1_in (by decide), up1_eq]
theorem nG_1 (G : Nat → Nat → Int32) (w t b : Int32) : (∀ i, i ≠ 5 → i ≠ 6 → i ≠ 9 → nG G w t b 0 i = G 0 i) ∧ nG G w t b 0 5 = G 0 5 + nI 1 ∧ nG G w t b 0 6 = G 0 6 + b ∧ nG G w t b 0 9 = G 0 9 - nI 1 ∧ (∀ c, c ≠ 0 → c ≠ 5 → c ≠ 8 → nG G w t b c = G c) ∧ (∀ j, j < 19 → nG G w t b 5 j = G 5 (j + 1)) ∧ nG G w t b 8 0 = w ∧ nG G w t b 8 1 = t ∧ nG G w t b 8 2 = b := by
  obtain ⟨V3, h3⟩ : ∃ z, up1 (up1 (up1 G 8 0 w) 8 1 t) 8 2 b = z := ⟨_, rfl⟩
  obtain ⟨V4, h4⟩ : ∃ z, setC V3 5 (shl (V3 5) 0 19) = z := ⟨_, rfl⟩
  have c3 : ∀ c, c ≠ 8 → V3 c = G c := fun c z => by
    rw [← h3]
    show setC _ 8 _ c = _
    rw [setC_ne z]
    show setC _ 8 _ c = _
    rw [setC_ne z]
    exact setC_ne z
  have c4 : ∀ c, c ≠ 5 → V4 c = V3 c := fun c z => by rw [← h4, setC_ne z]
  have c5 : V4 5 = shl (G 5) 0 19 := by rw [← h4, setC_eq, c3 5 (by decide)]
  have e : nG G w t b = up1 (up1 (up1 V4 0 9 (V4 0 9 - nI 1)) 0 5 (up1 V4 0 9 (V4 0 9 - nI 1) 0 5 + nI 1)) 0 6 (up1 (up1 V4 0 9 (V4 0 9 - nI 1)) 0 5 (up1 V4 0 9 (V4 0 9 - nI 1) 0 5 + nI 1) 0 6 + up1 (up1 V4 0 9 (V4 0 9 - nI 1)) 0 5 (up1 V4 0 9 (V4 0 9 - nI 1) 0 5 + nI 1) 8 2) := by
    unfold nG
    try dsimp only
    rw [h3, h4]
  have z8 : ∀ i, V4 8 i = V3 8 i := fun i => by rw [c4 8 (by decide)]
  have b2 : V3 8 2 = b := by rw [← h3]; exact up1_eq
  rw [e]
  have oc : ∀ c i, c ≠ 0 → up1 (up1 (up1 V4 0 9 (V4 0 9 - nI 1)) 0 5 (up1 V4 0 9 (V4 0 9 - nI 1) 0 5 + nI 1)) 0 6 (up1 (up1 V4 0 9 (V4 0 9 - nI 1)) 0 5 (up1 V4 0 9 (V4 0 9 - nI 1) 0 5 + nI 1) 0 6 + up1 (up1 V4 0 9 (V4 0 9 - nI 1)) 0 5 (up1 V4 0 9 (V4 0 9 - nI 1) 0 5 + nI 1) 8 2) c i = V4 c i := fun c i z => by rw [lup_ne (by omega), lup_ne (by omega), lup_ne (by omega)]
  have q0 : ∀ i, V4 0 i = G 0 i := fun i => by rw [c4 0 (by decide), c3 0 (by decide)]
  refine ⟨fun i n5 n6 n9 => ?_, ?_, ?_, ?_, fun c n0 n5 n8 => ?_, fun j hj => ?_, ?_, ?_, ?_⟩
  · rw [lup_ne (by omega), lup_ne (by omega), lup_ne (by omega), q0]
  · rw [lup_ne (by decide), up1_eq, lup_ne (by decide), q0]
  · rw [up1_eq, lup_ne (by decide), lup_ne (by decide), lup_ne (by decide), lup_ne (by decide), q0, z8, b2]
  · rw [lup_ne (by decide), lup_ne (by decide), up1_eq, q0]
  · funext i
    rw [oc c i n0, c4 c n5, c3 c n8]
  · rw [oc 5 j (by decide), c5]
    exact if_pos (by omega)
  · rw [oc 8 0 (by decide), z8, ← h3, up1_in (by decide), up1_in (by decide), up1_eq]
  · rw [oc 8 1 (by decide), z8, ← h3, up1_in (by decide), up1_eq]
  · rw [oc 8 2 (by decide), z8, b2]
theorem S_nst {G M : Nat → Nat → Int32} {n : Nat} {w b : Int32} (h : lqLS G M n) (hp : 1 ≤ tN (M 1 9)) : lqLS (nG G w (G 0 4) b) (nM M w b) n := by
  obtain ⟨g0, g05, g06, g09, gc, g5, g8⟩ := nG_1 G w (G 0 4) b
  obtain ⟨m1, m2, m5, m6, m9, n0, n1, n2⟩ := nM_1 M w b
  have lo : ∀ j, (j < 149 ∨ 168 ≤ j) → shl (M 1) 149 19 j = M 1 j := fun j z => if_neg (by omega)
  exact S_noteC h hp g0 g05 g06 g09 gc g5 g8 (fun j a x y z => by rw [m1 j (by omega) x y z, lo j (by omega)]) (fun j a => by rw [m2 j a, lo j (by omega)]) (fun j a c => by rw [m1 j (by omega) (by omega) (by omega) (by omega)]; exact if_pos (by omega)) m5 m6 m9 ⟨n0, by rw [n1, LQ_q h.1 (by decide)], n2⟩
def notesF (G : Nat → Nat → Int32) (k : Nat) (w t : Int32) : Nat → Nat → Int32 :=
  if up1 (up1 G 8 0 w) 8 1 t 5 0 = up1 (up1 G 8 0 w) 8 1 t 8 0 then CL_makes (up1 (nG G w t (nI 1)) 2 ((6 * k) + 4) (nI 1)) k 1 (nI 1) (up1 (nG G w t (nI 1)) 2 ((6 * k) + 4) (nI 1) 0 1)
  else CL_makes (up1 (nG G w t (nI 0)) 2 ((6 * k) + 4) (nI 1)) k 1 (nI 1) (up1 (nG G w t (nI 0)) 2 ((6 * k) + 4) (nI 1) 0 1)
theorem notes_eq (G : Nat → Nat → Int32) : CL_notes G = notesF G (tN (G 0 3)) (G 2 ((6 * (tN (G 0 3))) + 5)) (up1 G 8 0 (G 2 ((6 * (tN (G 0 3))) + 5)) 0 4) := rfl
def noteF (M : Nat → Nat → Int32) (k : Nat) (w : Int32) : Nat → Nat → Int32 :=
  if w = M 1 149 then C8_answer (nM M w (nI 1)) k (nI 1) (nM M w (nI 1) 1 1) else C8_answer (nM M w (nI 0)) k (nI 1) (nM M w (nI 0) 1 1)
theorem lq_note_eq (M : Nat → Nat → Int32) : C8_note M = noteF M (tN (M 1 3)) (C8_end M (tN (M 1 3)) 5) := rfl
theorem SL_note {G M : Nat → Nat → Int32} {n nS : Nat} (h : lqLS G M n) (hn : n ≤ 64) (hp : 1 ≤ tN (M 1 9)) (eS : M 1 3 = nI nS) (hS : nS < 7) : lqLS (CL_notes G) (C8_note M) (n + 1) := by
  have e3 : tN (M 1 3) = nS := by rw [eS]; exact tN_nI (by omega)
  have e3g : tN (G 0 3) = nS := by rw [LQ_q h.1 (by decide)]; exact e3
  obtain ⟨w, hw⟩ : ∃ z, G 2 ((6 * nS) + 5) = z := ⟨_, rfl⟩
  have hwm : C8_end M nS 5 = w := by
    rw [← hw, LQ_e h.1 hS (by decide) (show pe6 5 = 5 from rfl)]; rfl
  have hpd : G 5 0 = M 1 149 := h.1.2.2.2.1 0 (by omega)
  have go : ∀ b : Int32, lqLS (CL_makes (up1 (nG G w (G 0 4) b) 2 ((6 * nS) + 4) (nI 1)) nS 1 (nI 1) (up1 (nG G w (G 0 4) b) 2 ((6 * nS) + 4) (nI 1) 0 1)) (C8_answer (nM M w b) nS (nI 1) (nM M w b 1 1)) (n + 1) := by
    intro b
    have a := S_end (f := 4) (x := nI 1) (S_nst (w := w) (b := b) h hp) hS (by decide) (show pe6 4 = 2 from rfl)
    have q : (up1 (nG G w (G 0 4) b) 2 ((6 * nS) + 4) (nI 1)) 0 1 = nM M w b 1 1 := by
      rw [LQ_q a.1 (by decide)]
      show up1 _ 1 _ _ 1 1 = _
      rw [up1_in (by omega)]
    rw [q]
    exact S_make (w := 1) (v := 1) a hn hS (by decide) (by decide)
  rw [notes_eq, lq_note_eq, e3, e3g, hw, hwm, show up1 G 8 0 w 0 4 = G 0 4 from lup_ne (by decide)]
  unfold notesF noteF
  rw [show up1 (up1 G 8 0 w) 8 1 (G 0 4) 5 0 = M 1 149 by rw [lup_ne (by decide), lup_ne (by decide), hpd], show up1 (up1 G 8 0 w) 8 1 (G 0 4) 8 0 = w by rw [up1_in (by decide), up1_eq]]
  by_cases z : M 1 149 = w
  · rw [if_pos z, if_pos z.symm]
    exact go (nI 1)
  · rw [if_neg z, if_neg (fun y => z y.symm)]
    exact go (nI 0)
