/-! until all is quiet, on both sides: finish, quietIn; type -/
theorem G_settle {V M : Nat → Nat → Int32} {L : List (Nat × Nat)} {n p nS t c : Nat} {ph : Nat → Nat} (r : Rel V (M 1) L n p) (i : Inv V L n p nS t ph c) (ht : t ≤ 1000000) (hc : c < 2 ^ 29) (o : Off V) : setOK 5000 M ∧ lauOK (nI 2000000000) 1000000 V ∧ ∃ n' p' t' ph', Rel (C2_letArriveUpTo V (nI 2000000000)) (C8_settleS M 1) [] n' p' ∧ Inv (C2_letArriveUpTo V (nI 2000000000)) [] n' p' nS t' ph' c ∧ t ≤ t' ∧ t' ≤ 1080000 ∧ n ≤ n' ∧ Off (C2_letArriveUpTo V (nI 2000000000)) := by
  have hmu := mu_le r i
  obtain ⟨a, b, n', p', t', ph', R, I, y1, y2, y3, y4⟩ := loopS 2000000000 (by decide) (by decide) (mu V L nS ph) V M L n p nS t c ph rfl r i (by omega) hc 5000 1000000 (by omega) (by omega)
  exact ⟨a, b, n', p', t', ph', R, I, y1, by omega, y3, y4 o⟩
theorem tb_at (M : Nat → Nat → Int32) : (∀ a, a ≠ 1 → C8_takeBack M a = M a) ∧ ∀ j, j < 719 → C8_takeBack M 1 j = M 2 j := by
  unfold C8_takeBack
  refine ⟨fun a ha => setC_ne ha, fun j hj => ?_⟩
  rw [setC_eq]
  exact if_pos hj
theorem st_fr (M : Nat → Nat → Int32) {a : Nat} (h : a ≠ 1) : C8_settleS M a = M a := fr_setL h 5000 M
/-- what was tried and taken back leaves all as it was -/
theorem Wh_back {c : Nat} {F : Nat → Nat → Nat → Int32} {M S X : Nat → Nat → Int32} (h : Wh c F M) (m : ∀ a, a ≠ 1 → a ≠ 2 → S a = M a) (m2 : ∀ j, j < 719 → S 2 j = M 1 j) : Wh c (setF F 1 X) (C8_takeBack S) :=
  Wh_frame h (Nat.le_refl c) (fun a ha => setF_ne ha) (fun a h1 h2 => ((tb_at S).1 a h1).trans (m a h1 h2)) (Gd_m h.1 (fun j hj => ((tb_at S).2 j hj).trans (m2 j hj)))
theorem P_finish {c : Nat} {F : Nat → Nat → Nat → Int32} {M : Nat → Nat → Int32} (h : Wh c F M) (hc : c < 2 ^ 29) : lauOK (nI 2000000000) 1000000 (tr0 F) ∧ setOK 5000 (C8_putAside M) ∧ boL (C2_letArriveUpTo (tr0 F) (nI 2000000000)) ∧ (C7_finish F).1 = (C8_finish M).1 ∧ Wh c (C7_finish F).2 (C8_finish M).2 ∧ (C7_quietIn F).1 = (C8_quietIn M).1 ∧ Wh c (C7_quietIn F).2 (C8_quietIn M).2 := by
  obtain ⟨L, n, p, nS, t, ph, r, i, ht, o⟩ := Gd_tr h.1
  obtain ⟨s1, s2, n', p', t', ph', R, I, y1, y2, y3, y4⟩ := G_settle r i ht hc o
  obtain ⟨X, hX⟩ : ∃ z, z = C2_letArriveUpTo (tr0 F) (nI 2000000000) := ⟨_, rfl⟩
  have e0 : F 0 0 1 = nI t := ((AG_copy (F 1) (F 0)) 0 1 (by decide) (by decide)).symm.trans i.1.2.2.2.1
  have em : C8_putAside M 1 4 = nI t := by rw [← R_t r]; exact i.1.2.2.2.1
  have eX : X 0 1 = nI t' := by rw [hX]; exact I.1.2.2.2.1
  have eS : C8_settleS (C8_putAside M) 1 4 = nI t' := by rw [← eX, hX]; exact (R_t R).symm
  have bX : boL (C2_letArriveUpTo (tr0 F) (nI 2000000000)) := fun k hk => by
    obtain ⟨-, l2, l3, -⟩ := I.2.2.1 k hk
    rw [l2, l3]
    constructor <;> (split <;> exact ⟨rfl, rfl⟩)
  have mm : ∀ a, a ≠ 1 → a ≠ 2 → C8_settleS (C8_putAside M) a = M a := fun a h1 h2 => (st_fr _ h1).trans ((pa_at M).1 a h2)
  have m2 : ∀ j, j < 719 → C8_settleS (C8_putAside M) 2 j = M 1 j := fun j hj => by rw [st_fr _ (by decide)]; exact (pa_at M).2 j hj
  have eq1 : C7_quietIn F = (X 0 1 - F 0 0 1, setF F 1 X) := by
    rw [hX]
    unfold C7_quietIn tr0
    try dsimp only
    rw [sff, setF_eq, setF_eq, setF_ne (by decide)]
  have eq2 : C8_quietIn M = (C8_settleS (C8_putAside M) 1 4 - C8_putAside M 1 4, C8_takeBack (C8_settleS (C8_putAside M))) := rfl
  have ef : C7_finish F = if C2_isQuiet (F 0) = 0 then (if X 0 1 ≤ nI 1000000 then C7_accept (setF F 1 X) (X 0 1 - F 0 0 1) else ((-3), setF F 1 X)) else ((-5), F) := by
    rw [hX]
    unfold C7_finish tr0
    try dsimp only
    rw [sff, setF_eq, setF_eq, setF_ne (by decide)]
  have eg : C8_finish M = if M 1 10 = 0 then ((-5), M) else (if C8_settleS (C8_putAside M) 1 4 ≤ nI 1000000 then (C8_settleS (C8_putAside M) 1 4 - C8_putAside M 1 4, C8_push (C8_settleS (C8_putAside M))) else ((-3), C8_takeBack (C8_settleS (C8_putAside M)))) := rfl
  refine ⟨s2, s1, bX, ?_⟩
  have hq : (C7_quietIn F).1 = (C8_quietIn M).1 ∧ Wh c (C7_quietIn F).2 (C8_quietIn M).2 := by
    rw [eq1, eq2]
    refine ⟨?_, Wh_back h mm m2⟩
    show X 0 1 - F 0 0 1 = C8_settleS (C8_putAside M) 1 4 - C8_putAside M 1 4
    rw [eX, e0, eS, em]
  have hf : (C7_finish F).1 = (C8_finish M).1 ∧ Wh c (C7_finish F).2 (C8_finish M).2 := by
    obtain ⟨L0, n0, p0, nS0, t0, ph0, r0, i0, -, -⟩ := h.1
    have hl := inv_len i0
    have m10 : M 1 10 = nI L0.length := r0.2.2.1.1
    have v41 : F 0 4 1 = nI L0.length := r0.2.1.2.2.1
    rw [ef, eg, m10]
    by_cases z : L0.length = 0
    · have q : ¬ C2_isQuiet (F 0) = 0 := by
        unfold C2_isQuiet
        rw [v41, z, if_pos (show nI 0 = 0 from rfl)]; decide
      rw [if_neg q, if_pos (show nI L0.length = 0 by rw [z]; rfl)]
      exact ⟨rfl, h⟩
    · have q : C2_isQuiet (F 0) = 0 := by
        unfold C2_isQuiet
        rw [v41, if_neg (show ¬ nI L0.length = 0 by rw [nI_eq0 (by omega)]; exact z)]; rfl
      rw [if_pos q, if_neg (show ¬ nI L0.length = 0 by rw [nI_eq0 (by omega)]; exact z)]
      rw [eX, eS]
      by_cases w : t' ≤ 1000000
      · rw [if_pos ((nI_leI (by omega) (by decide)).mpr w), if_pos ((nI_leI (by omega) (by decide)).mpr w)]
        have gX : Gd c X (C8_push (C8_settleS (C8_putAside M)) 1) := by
          rw [push_fr.1 1 (by decide) (by decide), hX]
          exact ⟨[], n', p', nS, t', ph', R, I, w, y4⟩
        obtain ⟨k1, k2⟩ := T_acc (M2 := C8_settleS (C8_putAside M)) (M' := C8_push (C8_settleS (C8_putAside M))) (X := X) (x := nI t' - F 0 0 1) h (Nat.le_refl c) (by rw [e0, pk_sub y1]; exact Int32.not_lt.mp (nI_pos (by omega))) (Gd_m h.1 m2) mm (fun _ _ _ => rfl) gX
        refine ⟨?_, k2⟩
        rw [k1, e0, em]
      · rw [if_neg (show ¬ nI t' ≤ nI 1000000 by rw [nI_leI (by omega) (by decide)]; exact w), if_neg (show ¬ nI t' ≤ nI 1000000 by rw [nI_leI (by omega) (by decide)]; exact w)]
        exact ⟨rfl, Wh_back h mm m2⟩
  exact ⟨hf.1, hf.2, hq.1, hq.2⟩
