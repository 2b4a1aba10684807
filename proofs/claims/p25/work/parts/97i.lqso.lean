/-! the law's questions: what the class answers, out of the law's rows -/
theorem win1 {x a b : Nat} (h1 : a ≤ x) (h2 : x ≤ b) (hb : b < 2 ^ 31) : C8_within (nI x) (nI a) (nI b) = nI 1 := by
  unfold C8_within
  rw [if_neg (fun z => by have := (nI_ltI (by omega) (by omega)).mp z; omega), if_neg (fun z => by have := (nI_ltI (by omega) (by omega)).mp z; omega)]
theorem n1n0 : ¬ nI 1 = 0 := by decide
section SO
variable {c : Nat} {F : Nat → Nat → Nat → Int32} {M G : Nat → Nat → Int32}
theorem so_L {L : List (Nat × Nat)} {n p nS t cap : Nat} {ph : Nat → Nat} (h : Rel (F 0) (M 1) L n p) (i : Inv (F 0) L n p nS t ph cap) (q : LQ G (M 1)) {k : Nat} (hk : k ≤ nS) : SoL F G k := by
  have n6 := i.1.2.1
  have e3 := R_n3 h i
  have k7 : k < 7 := by omega
  have link : ∀ w, w ≤ 12 → C7_link F (nI k) (nI w) = C8_tellsLink M k w := fun w hw => by
    rw [Q_link h i]
    unfold C8_link C8_isLink
    rw [e3, win1 (Nat.zero_le k) hk (by omega), if_neg n1n0, win1 (Nat.zero_le w) hw (by decide), if_neg n1n0]
    try dsimp only
    rw [tN_nI (by omega), tN_nI (by omega)]
  have ends : ∀ w, 3 ≤ w → w < 9 → C7_link F (nI k) (nI w) = M 1 ((34 + (6 * k)) + (w - 3)) := fun w h3 h9 => by
    rw [link w (by omega)]
    unfold C8_tellsLink C8_end
    rw [if_pos h3, if_neg (by omega)]
  have f0 := q.1 3 (3 * k) (pl_f0 k7).1
  have f1 := q.1 3 ((3 * k) + 1) (pl_f1 k7).1
  have f2 := q.1 3 ((3 * k) + 2) (pl_f2 k7).1
  rw [(pl_f0 k7).2] at f0
  rw [(pl_f1 k7).2] at f1
  rw [(pl_f2 k7).2] at f2
  refine ⟨fun w hw => ?_, ?_, ?_, ?_, ?_, ?_, ?_, ?_, ?_, ?_, ?_⟩
  · rw [link w (by omega)]
    unfold C8_tellsLink
    rw [if_neg (by omega)]
    exact (LQ_d q k7 hw).symm
  · rw [ends 3 (by decide) (by decide)]; exact (LQ_e q k7 (f := 0) (by decide) (show pe6 0 = 0 from rfl)).symm
  · rw [ends 4 (by decide) (by decide)]; exact (LQ_e q k7 (f := 3) (by decide) (show pe6 3 = 1 from rfl)).symm
  · rw [ends 5 (by decide) (by decide)]; exact (LQ_e q k7 (f := 4) (by decide) (show pe6 4 = 2 from rfl)).symm
  · rw [ends 6 (by decide) (by decide)]; exact (LQ_e q k7 (f := 1) (by decide) (show pe6 1 = 3 from rfl)).symm
  · rw [ends 7 (by decide) (by decide)]; exact (LQ_e q k7 (f := 2) (by decide) (show pe6 2 = 4 from rfl)).symm
  · rw [ends 8 (by decide) (by decide)]; exact (LQ_e q k7 (f := 5) (by decide) (show pe6 5 = 5 from rfl)).symm
  · rw [link 9 (by decide), f0, tells_rest (by decide) (by decide), if_pos rfl]
  · rw [link 10 (by decide), f1, tells_rest (by decide) (by decide), if_neg (by decide), if_pos rfl]
  · rw [link 11 (by decide), f2, tells_rest (by decide) (by decide), if_neg (by decide), if_neg (by decide), if_pos rfl]
  · rw [link 12 (by decide), tells_rest (by decide) (by decide), if_neg (by decide), if_neg (by decide), if_neg (by decide), ← LQ_d q k7 (w := 0) (by decide), ← LQ_d q k7 (w := 2) (by decide), ← LQ_q q (i := 0) (by decide)]
    rfl
theorem fs_eq {V G : Nat → Nat → Int32} {m : Nat → Int32} (h : Hld V m) (g : LHd G m) : ∀ q k, k + q ≤ 6 → fSum V q k = foF (G 3) q k
  | 0, _, _ => rfl
  | q + 1, k, hk => by
    have ih := fs_eq h g q (k + 1) (by omega)
    show fst1 V k + fSum V q (k + 1) = (if G 3 (21 + k) < 0 then 0 else 1) + foF (G 3) q (k + 1)
    rw [ih]
    congr 1
    unfold fst1
    rcases h k (by omega) with ⟨a, b⟩ | ⟨w, w1, a, b, d⟩
    · rcases g k (by omega) with ⟨a', b'⟩ | ⟨w', w1', a', b', d'⟩
      · rw [if_pos a, if_pos (by rw [a']; decide)]
      · rw [b] at b'; exact absurd b' (by decide)
    · rcases g k (by omega) with ⟨a', b'⟩ | ⟨w', w1', a', b', d'⟩
      · rw [b] at b'; exact absurd b' (by decide)
      · rw [if_neg (by rw [a]; exact nI_nem1 (by omega)), if_neg (by rw [a']; exact nI_pos (by omega))]
theorem so_T {L : List (Nat × Nat)} {n p nS t cap : Nat} {ph : Nat → Nat} (h : Rel (F 0) (M 1) L n p) (i : Inv (F 0) L n p nS t ph cap) (o : Off (F 0)) (q : LQ G (M 1)) : SoT F G := by
  have n6 := i.1.2.1
  have e3 := R_n3 h i
  have qq : ∀ j, j < 13 → G 0 j = M 1 j := fun j hj => LQ_q q hj
  have f2 := q.1 3 ((3 * 0) + 2) (pl_f2 (by decide)).1
  rw [(pl_f2 (by decide)).2] at f2
  refine ⟨?_, ?_, ?_, ?_, ?_, ?_, ?_, ?_, ?_, ?_⟩
  · show F 0 0 0 = _
    rw [qq 3 (by decide)]; exact R_eq h (c := 0) (i := 0) (by decide)
  · show F 0 0 1 = _
    rw [qq 4 (by decide)]; exact R_eq h (c := 0) (i := 1) (by decide)
  · show C2_waitingWords (F 0) = _
    rw [qq 11 (by decide), qq 12 (by decide)]; exact Q_ww h
  · show C2_fullStages (F 0) = _
    unfold C2_fullStages CL_fullOnes
    have eV : F 0 0 0 = nI nS := i.1.2.2.1
    rw [eV, tN_nI (by omega), qq 3 (by decide), e3, tN_nI (by omega), fsL_eq 7 0 0 (by omega), show min 7 (nS - 0) = nS by omega, fs_eq h.2.2.2.1 q.2.1 nS 0 (by omega), Nat.zero_add]
  · show F 0 4 1 = _
    rw [qq 10 (by decide), h.2.2.1.1]; exact h.2.1.2.2.1
  · show F 0 0 3 = _
    rw [o.1, show G 3 2 = M 1 (90 + 0) from f2]; exact R_eq h (c := 11) (i := 8) (by decide)
  · show F 0 7 0 = _
    rw [qq 5 (by decide)]; exact R_eq h (c := 7) (i := 0) (by decide)
  · show F 0 7 1 = _
    rw [qq 6 (by decide)]; exact R_eq h (c := 7) (i := 1) (by decide)
  · show F 0 0 4 = _
    rw [qq 7 (by decide)]; exact R_eq h (c := 0) (i := 4) (by decide)
  · show F 0 0 2 = _
    rw [qq 8 (by decide)]; exact R_eq h (c := 0) (i := 2) (by decide)
/-- the least time -/
theorem lsL_min {t : Nat → Int32} {T : Nat → Nat} {n : Nat} (ht : ∀ j, j < n → t j = nI (T j) ∧ T j < 2 ^ 31) : ∀ (q k m0 : Nat), k + q = n → m0 < 2 ^ 31 → ∃ m', lsL t q k (nI m0) = nI m' ∧ m' ≤ m0 ∧ m' < 2 ^ 31 ∧ (∀ j, k ≤ j → j < n → m' ≤ T j) ∧ (m' = m0 ∨ ∃ j, k ≤ j ∧ j < n ∧ m' = T j)
  | 0, k, m0, hk, hm => ⟨m0, rfl, Nat.le_refl _, hm, fun j a b => by omega, Or.inl rfl⟩
  | q + 1, k, m0, hk, hm => by
    obtain ⟨tk, t31⟩ := ht k (by omega)
    have e : lsL t (q + 1) k (nI m0) = lsL t q (k + 1) (if t k < nI m0 then t k else nI m0) := by
      show lsL t q (k + 1) (if nI m0 < 0 then t k else if t k < nI m0 then t k else nI m0) = _
      rw [if_neg (nI_pos hm)]
    rw [e, tk]
    by_cases z : T k < m0
    · rw [if_pos ((nI_ltI t31 hm).mpr z)]
      obtain ⟨m', a, b, c, d, f⟩ := lsL_min ht q (k + 1) (T k) (by omega) t31
      refine ⟨m', a, by omega, c, fun j x y => ?_, ?_⟩
      · by_cases w : j = k
        · subst w; exact b
        · exact d j (by omega) y
      · rcases f with f | ⟨j, x, y, f⟩
        · exact Or.inr ⟨k, Nat.le_refl _, by omega, f⟩
        · exact Or.inr ⟨j, by omega, y, f⟩
    · rw [if_neg (fun y => z ((nI_ltI t31 hm).mp y))]
      obtain ⟨m', a, b, c, d, f⟩ := lsL_min ht q (k + 1) m0 (by omega) hm
      refine ⟨m', a, b, c, fun j x y => ?_, ?_⟩
      · by_cases w : j = k
        · subst w; omega
        · exact d j (by omega) y
      · rcases f with f | ⟨j, x, y, f⟩
        · exact Or.inl f
        · exact Or.inr ⟨j, by omega, y, f⟩
theorem lsL_all {t : Nat → Int32} {T : Nat → Nat} {n r : Nat} (ht : ∀ j, j < n → t j = nI (T j) ∧ T j < 2 ^ 31) (hr : r < n) (hm : ∀ j, j < n → T r ≤ T j) : lsL t n 0 (-5) = nI (T r) := by
  obtain ⟨n', rfl⟩ : ∃ z, n = z + 1 := ⟨n - 1, by omega⟩
  obtain ⟨t0, t31⟩ := ht 0 (by omega)
  have e : lsL t (n' + 1) 0 (-5) = lsL t n' 1 (t 0) := by
    show lsL t n' (0 + 1) (if (-5 : Int32) < 0 then t 0 else _) = _
    rw [if_pos (by decide)]
  obtain ⟨m', a, b, c, d, f⟩ := lsL_min ht n' 1 (T 0) (by omega) t31
  rw [e, t0, a]
  have hle : m' ≤ T r := by
    by_cases w : r = 0
    · subst w; exact b
    · exact d r (by omega) hr
  have hge : T r ≤ m' := by
    rcases f with f | ⟨j, x, y, f⟩
    · rw [f]; exact hm 0 (by omega)
    · rw [f]; exact hm j y
  rw [show m' = T r by omega]
/-- the times of the law's changes -/
theorem LQ_t {L : List (Nat × Nat)} (hl : listM (M 1) L) (hb : ∀ x ∈ L, x.1 < 2 ^ 31) (q : LQ G (M 1)) (h100 : L.length < 100) : ∀ j, j < L.length → G 6 j = nI (L.getD j (0, 0)).1 ∧ (L.getD j (0, 0)).1 < 2 ^ 31 := fun j hj => by
  have e10 : tN (M 1 10) = L.length := by rw [hl.1]; exact tN_nI (by omega)
  refine ⟨?_, hb _ (getD_mem hj)⟩
  rw [(q.2.2.2.2.1 j (by rw [e10]; exact hj)).1]
  exact (hl.2 j hj).1
theorem so_R {L : List (Nat × Nat)} {n p nS t cap : Nat} {ph : Nat → Nat} (h : Rel (F 0) (M 1) L n p) (i : Inv (F 0) L n p nS t ph cap) (ht : t < 2 ^ 29) (q : LQ G (M 1)) : SoR F G := by
  have n6 := i.1.2.1
  have n1 := i.1.1
  have e3 := R_n3 h i
  have hlen := inv_len i
  have qq : ∀ j, j < 13 → G 0 j = M 1 j := fun j hj => LQ_q q hj
  have e5 : M 1 5 = nI n := (R_eq h (c := 7) (i := 0) (by decide)).symm.trans h.2.2.2.2.2.1.2.2.1
  have hn : n < 2 ^ 30 := by have := h.2.2.2.2.2.1.2.1; omega
  refine ⟨fun w hw => ?_, fun w hw => ?_, fun k hk => ?_, fun k hk j hj => ?_, ?_⟩
  · rw [qq w (by omega)]
    have e := R_eq h (c := 1) (i := w) (show DM 1 w from Or.inr (Or.inl ⟨rfl, hw⟩))
    match w, hw with
    | 0, _ => exact e
    | 1, _ => exact e
    | 2, _ => exact e
  · rw [Q_noted h]
    unfold C8_noted
    rw [if_neg (show ¬ nI 0 < 0 by decide), win1 (Nat.zero_le w) (by omega) (by decide), if_neg n1n0]
    try dsimp only
    rw [tN_nI (show 0 < 2 ^ 31 by decide), tN_nI (show w < 2 ^ 31 by omega), if_neg (by decide), qq 5 (by decide), e5]
    by_cases z : n = 0
    · subst z
      rw [if_pos (show nI 0 ≤ nI 0 by decide), if_pos (show nI 0 = 0 from rfl)]
    · rw [if_neg (fun y => z (by have := (nI_leI (by omega) (by decide)).mp y; omega)), if_neg (fun y => z ((nI_eq0 (by omega)).mp y))]
      rcases q.2.2.2.2.2 with y | y
      · rw [e5] at y
        exact absurd ((nI_eq (by omega) (by decide)).mp y) z
      · rw [y w hw]
  · rw [qq 3 (by decide), e3, tN_nI (by omega)] at hk
    rw [Q_stage h i]
    unfold C8_stage
    rw [e3, tN_nI (by omega), win1 (Nat.zero_le k) (by omega) (by omega), if_neg n1n0]
    try dsimp only
    rw [tN_nI (show k < 2 ^ 31 by omega)]
    rcases q.2.1 k (by omega) with ⟨a, b⟩ | ⟨w, w1, a, b, d⟩
    · rw [b, if_neg (by decide), if_pos (by rw [a]; decide)]
    · rw [b, if_pos rfl, if_neg (by rw [a]; exact nI_pos (by omega)), a, d]
  · rw [Q_waiting h]
    unfold C8_waiting C8_isSender
    rw [win1 (Nat.zero_le k) (by omega) (by decide), if_neg n1n0, if_pos (nI_pos' (by omega))]
    try dsimp only
    rw [tN_nI (show k < 2 ^ 31 by omega), tN_nI (show j < 2 ^ 31 by omega), qq (11 + k) (by omega)]
    by_cases z : j < tN (M 1 (11 + k))
    · rw [if_neg (by omega), if_pos z]
      exact (q.2.2.1 k hk j z).symm
    · rw [if_pos (by omega), if_neg z]
  · have e10 : tN (G 0 10) = L.length := by rw [qq 10 (by decide), h.2.2.1.1]; exact tN_nI (by omega)
    rw [e10]
    by_cases z : L = []
    · subst z
      unfold C7_next
      rw [if_neg (quiet_of h)]
      rfl
    · obtain ⟨r, er, hr⟩ := next_M h.2.2.1 (by omega) (inv_t31 i ht) (List.length_pos_iff.mpr z)
      obtain ⟨f1, f2, f3⟩ := first_of h i hr
      unfold C7_next
      rw [if_pos f1, f2]
      exact (lsL_all (T := fun j => (L.getD j (0, 0)).1) (LQ_t h.2.2.1 (inv_t31 i ht) q (by omega)) hr.1 hr.2.1).symm
/-- all of it -/
theorem so_all (g : Gd c (F 0) (M 1)) (q : LQ G (M 1)) : (∀ k, k ≤ tN (G 0 3) → SoL F G k) ∧ SoR F G ∧ SoT F G := by
  obtain ⟨L, n, p, nS, t, ph, h, i, ht, o⟩ := g
  have e : tN (G 0 3) = nS := by rw [LQ_q q (by decide), R_n3 h i]; exact tN_nI (by have := i.1.2.1; omega)
  exact ⟨fun k hk => so_L h i q (by omega), so_R h i (by omega) q, so_T h i o q⟩
/-- two lines that answer to the same rows are told alike -/
theorem told_same {c c' : Nat} {F' : Nat → Nat → Nat → Int32} (g : Gd c (F 0) (M 1)) (g' : Gd c' (F' 0) (M 1)) (q : LQ G (M 1)) : toldV F' = toldV F := by
  obtain ⟨-, r, s⟩ := so_all g q
  obtain ⟨-, r', s'⟩ := so_all g' q
  obtain ⟨L, n, p, nS, t, ph, h, i, ht, -⟩ := g
  obtain ⟨L', n', p', nS', t', ph', h', i', ht', -⟩ := g'
  refine told_eq (fun k hk => ?_) (fun a b => by rw [Q_link h i, Q_link h' i']) (fun a => by rw [Q_stage h i, Q_stage h' i']) (by rw [r.2.2.2.2, r'.2.2.2.2])
  obtain ⟨s0, s1, s2, s3, s4, s5, s6, s7, s8, s9⟩ := s
  obtain ⟨u0, u1, u2, u3, u4, u5, u6, u7, u8, u9⟩ := s'
  match k, hk with
  | 0, _ => rw [s0, u0]
  | 1, _ => rw [s1, u1]
  | 2, _ => rw [s2, u2]
  | 3, _ => rw [s3, u3]
  | 4, _ => rw [s4, u4]
  | 5, _ => rw [s5, u5]
  | 6, _ => rw [s6, u6]
  | 7, _ => rw [s7, u7]
  | 8, _ => rw [s8, u8]
  | 9, _ => rw [s9, u9]
  | 10, _ => exact (r'.1 0 (by decide)).trans (r.1 0 (by decide)).symm
  | 11, _ => exact (r'.1 1 (by decide)).trans (r.1 1 (by decide)).symm
  | 12, _ => exact (r'.1 2 (by decide)).trans (r.1 2 (by decide)).symm
end SO
