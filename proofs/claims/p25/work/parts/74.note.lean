/-! a word is noted; a word is let go -/
/-- the reference's numbers when a word is noted -/
def nteM (m : Nat → Int32) (w r : Int32) : Nat → Int32 := fun j =>
  if j = 6 then m 6 + r else if j = 5 then m 5 + nI 1 else if j = 171 then r else if j = 170 then m 4 else if j = 169 then w else if 171 < j ∧ j ≤ 318 then m (j - 3) else if j = 9 then m 9 - nI 1 else if 149 ≤ j ∧ j < 168 then m (j + 1) else m j
def nteW (M : Nat → Nat → Int32) (w r : Int32) : Nat → Nat → Int32 :=
  let V1 := setC M 1 (shl (M 1) 149 19)
  let V2 := up1 V1 1 9 ((V1 1 9) - (nI 1))
  let V3 := setC V2 1 (sh3 (V2 1) 2)
  let V4 := up1 V3 1 169 w
  let V5 := up1 V4 1 170 (V4 1 4)
  let V6 := up1 V5 1 171 r
  let V7 := up1 V6 1 5 ((V6 1 5) + (nI 1))
  up1 V7 1 6 ((V7 1 6) + r)
theorem nteW_1 (M : Nat → Nat → Int32) (w r : Int32) : nteW M w r 1 = nteM (M 1) w r := by
  have hs : ∀ j, shl (M 1) 149 19 j = if 149 ≤ j ∧ j < 149 + 19 then M 1 (j + 1) else M 1 j := fun j => rfl
  have h3 : ∀ (f : Nat → Int32) j, sh3 f 2 j = if 169 + 2 < j ∧ j ≤ 318 then f (j - 3) else f j := fun f j => rfl
  funext j
  unfold nteW nteM
  try dsimp only
  simp only [upM, setC_eq, upd_at, h3, hs]
  by_cases c1 : j = 6
  · subst c1; simp
  · by_cases c2 : j = 5
    · subst c2; simp
    · by_cases c3 : j = 171
      · subst c3; simp
      · by_cases c4 : j = 170
        · subst c4; simp
        · by_cases c5 : j = 169
          · subst c5; simp
          · simp only [if_neg c1, if_neg c2, if_neg c3, if_neg c4, if_neg c5]
            by_cases c6 : 171 < j ∧ j ≤ 318
            · rw [if_pos (show 169 + 2 < j ∧ j ≤ 318 by omega), if_pos c6, if_neg (by omega), if_neg (by omega)]
            · rw [if_neg (show ¬ (169 + 2 < j ∧ j ≤ 318) by omega), if_neg c6]
              by_cases c7 : j = 9
              · subst c7; simp
              · rw [if_neg c7, if_neg c7]
theorem note_eq (M : Nat → Nat → Int32) : C8_note M = if (C8_end M (tN (M 1 3)) 5) = (M 1 149) then C8_answer (nteW M (C8_end M (tN (M 1 3)) 5) (nI 1)) (tN (M 1 3)) (nI 1) (nteW M (C8_end M (tN (M 1 3)) 5) (nI 1) 1 1) else C8_answer (nteW M (C8_end M (tN (M 1 3)) 5) (nI 0)) (tN (M 1 3)) (nI 1) (nteW M (C8_end M (tN (M 1 3)) 5) (nI 0) 1 1) := rfl
theorem app_at {U : Nat → Nat → Int32} {w t r : Int32} : C4_append U w t r 0 0 = U 0 0 + nI 1 ∧ C4_append U w t r 0 1 = U 0 1 + r ∧ (∀ i, i ≠ 0 → i ≠ 1 → C4_append U w t r 0 i = U 0 i) ∧ C4_append U w t r 1 = upd (U 1) (tN (U 0 0) % 50) w ∧ C4_append U w t r 2 = upd (U 2) (tN (U 0 0) % 50) t ∧ C4_append U w t r 3 = upd (U 3) (tN (U 0 0) % 50) r := by
  unfold C4_append
  try dsimp only
  refine ⟨?_, ?_, ?_, ?_, ?_, ?_⟩
  · rw [up1_oi (by decide), up1_eq]; rfl
  · rw [up1_eq, up1_oi (by decide)]; rfl
  · intro i a b; rw [up1_oi b, up1_oi a]; rfl
  · rfl
  · rfl
  · rfl
theorem R_note {V M : Nat → Nat → Int32} {L : List (Nat × Nat)} {n p : Nat} {w r : Int32} (h : Rel V (M 1) L n p) (hp : 0 < p) : Rel (ntS V (C4_append (ntU V) w (V 0 1) r)) (nteW M w r 1) L (n + 1) (p - 1) := by
  obtain ⟨h1, h2, h3, h4, h5, h6, h7⟩ := h
  obtain ⟨p1, p2, p3, p4, p5, p6⟩ := h6
  have en : tN (V 7 0) = n := by rw [p3]; exact tN_nI (by omega)
  rw [nteW_1]
  obtain ⟨a0, a1, ai, a2, a3, a4⟩ := @app_at (ntU V) w (V 0 1) r
  obtain ⟨V', eV⟩ : ∃ z, z = ntS V (C4_append (ntU V) w (V 0 1) r) := ⟨_, rfl⟩
  rw [← eV]
  have f : ∀ c, c ≠ 7 → c ≠ 8 → c ≠ 9 → c ≠ 10 → V' c = V c := fun c x1 x2 x3 x4 => by rw [eV]; show setC (setC (setC (setC V 7 _) 8 _) 9 _) 10 _ c = V c; rw [setC_ne x4, setC_ne x3, setC_ne x2, setC_ne x1]
  have f70 : V' 7 0 = V 7 0 + nI 1 := by rw [eV]; exact a0
  have f71 : V' 7 1 = V 7 1 + r := by rw [eV]; exact a1
  have f8 : V' 8 = upd (V 8) (n % 50) w := by rw [eV, ← en]; exact a2
  have f9 : V' 9 = upd (V 9) (n % 50) (V 0 1) := by rw [eV, ← en]; exact a3
  have f10 : V' 10 = upd (V 10) (n % 50) r := by rw [eV, ← en]; exact a4
  have mo : ∀ j, j ≠ 6 → j ≠ 5 → ¬ (169 ≤ j ∧ j ≤ 318) → j ≠ 9 → ¬ (149 ≤ j ∧ j < 168) → nteM (M 1) w r j = M 1 j := fun j x1 x2 x3 x4 x5 => by
    unfold nteM
    rw [if_neg x1, if_neg x2, if_neg (by omega), if_neg (by omega), if_neg (by omega), if_neg (by omega), if_neg x4, if_neg x5]
  refine ⟨?_, ring_of h2 (f 4 (by decide) (by decide) (by decide) (by decide)) (f 5 (by decide) (by decide) (by decide) (by decide)) (f 6 (by decide) (by decide) (by decide) (by decide)), listM_of h3 (mo 10 (by decide) (by decide) (by omega) (by decide) (by omega)) (fun j hj => mo j (by omega) (by omega) (by omega) (by omega) (by omega)), Hld_of h4 (f 2 (by decide) (by decide) (by decide) (by decide)) (fun j x y => mo j (by omega) (by omega) (by omega) (by omega) (by omega)), Rws_of h5 (f 25 (by decide) (by decide) (by decide) (by decide)) (f 26 (by decide) (by decide) (by decide) (by decide)) (by rw [f 27 (by decide) (by decide) (by decide) (by decide)]) (by rw [f 28 (by decide) (by decide) (by decide) (by decide)]) (fun j x y => mo j (by omega) (by omega) (by omega) (by omega) (by omega)), ⟨by omega, by omega, ?_, ?_, ?_, ?_⟩, ?_⟩
  · intro c i hd
    have hr := ps_rng hd
    by_cases c7 : c = 7
    · subst c7
      have hi : i = 0 ∨ i = 1 := by unfold DM at hd; omega
      rcases hi with rfl | rfl
      · rw [f70, h1 7 0 hd]; rfl
      · rw [f71, h1 7 1 hd]; rfl
    · have h57 : ps c i ≠ 5 ∧ ps c i ≠ 6 := by
        constructor
        · intro e; have := ps_inj hd (show DM 7 0 by decide) e; omega
        · intro e; have := ps_inj hd (show DM 7 1 by decide) e; omega
      rw [f c c7 (by unfold DM at hd; omega) (by unfold DM at hd; omega) (by unfold DM at hd; omega), mo _ h57.2 h57.1 (by omega) (by omega) (by omega)]
      exact h1 c i hd
  · rw [f70, p3, nI_add]
  · rw [f 0 (by decide) (by decide) (by decide) (by decide), p4, show n + 1 + (p - 1) = n + p by omega]
  · show nteM (M 1) w r 9 = _
    unfold nteM
    rw [if_neg (by decide), if_neg (by decide), if_neg (by decide), if_neg (by decide), if_neg (by decide), if_neg (by decide), if_pos rfl, p5, pk_sub hp]
  · intro j hj
    rw [f 3 (by decide) (by decide) (by decide) (by decide)]
    unfold nteM
    rw [if_neg (by omega), if_neg (by omega), if_neg (by omega), if_neg (by omega), if_neg (by omega), if_neg (by omega), if_neg (by omega), if_pos (by omega)]
    have := p6 (j + 1) (by omega)
    rw [show (n + 1 + j) % 8 = (n + (j + 1)) % 8 by omega, show 149 + j + 1 = 149 + (j + 1) by omega]
    exact this
  · intro q hq h50
    rw [f8, f9, f10, upd_at, upd_at, upd_at]
    by_cases c : q = 0
    · subst c
      rw [if_pos (by rw [Nat.sub_zero, Nat.add_sub_cancel]), if_pos (by rw [Nat.sub_zero, Nat.add_sub_cancel]), if_pos (by rw [Nat.sub_zero, Nat.add_sub_cancel])]
      refine ⟨rfl, ?_, rfl⟩
      exact h1 0 1 (by decide)
    · rw [if_neg (by omega), if_neg (by omega), if_neg (by omega)]
      have := h7 (q - 1) (by omega) (by omega)
      rw [show n + 1 - 1 - q = n - 1 - (q - 1) by omega]
      have m3 : ∀ x, x < 3 → nteM (M 1) w r (169 + x + 3 * q) = M 1 (169 + x + 3 * (q - 1)) := fun x hx => by
        unfold nteM
        rw [if_neg (by omega), if_neg (by omega), if_neg (by omega), if_neg (by omega), if_neg (by omega), if_pos (by omega)]
        congr 1; omega
      have y0 := m3 0 (by decide)
      have y1 := m3 1 (by decide)
      have y2 := m3 2 (by decide)
      rw [show 169 + 3 * q = 169 + 0 + 3 * q by omega, y0, show 170 + 3 * q = 169 + 1 + 3 * q by omega, y1, show 171 + 3 * q = 169 + 2 + 3 * q by omega, y2]
      exact this
theorem rmL_at (N : Nat) : ∀ (q i : Nat) (t : Nat → Int32) (j : Nat), N ≤ i + q → rmL N q i t j = if i ≤ j ∧ j < N then t (j + 1) else t j := by
  intro q
  induction q with
  | zero => intro i t j h; show t j = _; rw [if_neg (by omega)]
  | succ q ih =>
    intro i t j h
    unfold rmL
    by_cases c : N ≤ i
    · rw [if_pos c, if_neg (by omega)]
    · rw [if_neg c, ih (i + 1) _ j (by omega), upd_at, upd_at]
      by_cases c2 : i + 1 ≤ j ∧ j < N
      · rw [if_pos c2, if_neg (by omega), if_pos (by omega)]
      · rw [if_neg c2]
        by_cases c3 : j = i
        · rw [if_pos c3, if_pos (by omega), c3]
        · rw [if_neg c3, if_neg (by omega)]
/-- the reference's state when a word of the sender s is let go -/
def goM (M : Nat → Nat → Int32) (s : Nat) (wd : Int32) : Nat → Nat → Int32 :=
  let V1 := setC M 1 (shl (M 1) (109 + 20 * s) 19)
  let V2 := up1 V1 1 (11 + s) ((V1 1 (11 + s)) - (nI 1))
  let V3 := up1 V2 1 8 (nI s)
  let V4 := up1 V3 1 (149 + (tN (M 1 9))) wd
  up1 V4 1 9 ((V4 1 9) + (nI 1))
theorem goM_at {M : Nat → Nat → Int32} {s p : Nat} {wd : Int32} (hs : s < 2) (hp : p < 8) (e : tN (M 1 9) = p) (j : Nat) : goM M s wd 1 j = if j = 9 then M 1 9 + nI 1 else if j = 149 + p then wd else if j = 8 then nI s else if j = 11 + s then M 1 (11 + s) - nI 1 else if 109 + 20 * s ≤ j ∧ j < 109 + 20 * s + 19 then M 1 (j + 1) else M 1 j := by
  have hsh : ∀ j, shl (M 1) (109 + 20 * s) 19 j = if 109 + 20 * s ≤ j ∧ j < 109 + 20 * s + 19 then M 1 (j + 1) else M 1 j := fun j => rfl
  unfold goM
  try dsimp only
  simp only [upM, setC_eq, upd_at, hsh, e]
  by_cases c1 : j = 9
  · subst c1
    rw [if_pos rfl, if_pos rfl, if_neg (show ¬ 9 = 149 + p by omega), if_neg (show ¬ 9 = 8 by decide), if_neg (show ¬ 9 = 11 + s by omega), if_neg (show ¬ (109 + 20 * s ≤ 9 ∧ 9 < 109 + 20 * s + 19) by omega)]
  · rw [if_neg c1, if_neg c1]
    by_cases c2 : j = 149 + p
    · rw [if_pos c2, if_pos c2]
    · rw [if_neg c2, if_neg c2]
      by_cases c3 : j = 8
      · rw [if_pos c3, if_pos c3]
      · rw [if_neg c3, if_neg c3]
        by_cases c4 : j = 11 + s
        · rw [if_pos c4, if_pos c4, if_neg (show ¬ (109 + 20 * s ≤ 11 + s ∧ 11 + s < 109 + 20 * s + 19) by omega)]
        · rw [if_neg c4, if_neg c4]
