/-! all that arrive up to a time: the law's rows beside the numbers -/
section LQL
variable {V M G : Nat → Nat → Int32} {L : List (Nat × Nat)} {n p nS t cap : Nat} {ph : Nat → Nat}
theorem nd_of (h : Rel V (M 1) L n p) (i : Inv V L n p nS t ph cap) (o : Off V) : Nd (M 1) := by
  obtain ⟨a, a1, a2, a3⟩ := h.2.2.2.2.1 0 (by decide)
  obtain ⟨b, b1, b2, b3⟩ := h.2.2.2.2.1 1 (by decide)
  obtain ⟨-, y, y1, y2⟩ := o
  refine ⟨(mf_of h i).2.2, ⟨a, by omega, (R_eq h (c := 27) (i := 0) (by decide)).symm.trans a2, fun z => ?_⟩, ⟨b, by omega, (R_eq h (c := 28) (i := 0) (by decide)).symm.trans b2, fun z => ?_⟩, ⟨y, y1, (R_eq h (c := 1) (i := 2) (by decide)).symm.trans y2⟩, fun j hj => ?_⟩
  · obtain ⟨w, w1, -, w2⟩ := a3 0 z
    exact ⟨w, w1, w2⟩
  · obtain ⟨w, w1, -, w2⟩ := b3 0 z
    exact ⟨w, w1, w2⟩
  · obtain ⟨w, w1, w2⟩ := i.1.2.2.2.2.2.2.2 j hj
    have e := R_eq h (ps_lk (k := j) (f := 5) hj (by decide)).2
    rw [(ps_lk (k := j) (f := 5) hj (by decide)).1] at e
    exact ⟨w, w1, e.symm.trans w2⟩
theorem nr_of {r : Nat} (h : Rel V (M 1) L n p) (i : Inv V L n p nS t ph cap) (hr : isF L r) : Nr (M 1) r := by
  have hm := getD_mem hr.1
  obtain ⟨x1, x2, x3, x4⟩ := h.2.2.1.2 r hr.1
  have hls := (i.2.1 _ hm).2.2
  have n6 := i.1.2.1
  obtain ⟨x, hx⟩ : ∃ x, L.getD r (0, 0) = x := ⟨_, rfl⟩
  rw [hx] at hm x1 x2 x3 x4 hls
  have bits : x.2 / 32 % 3 ≠ 2 → ∃ a, x = (a, hsg (x.2 / 96) (ph (x.2 / 96))) := fun z => by
    have hf : x ∈ hsL (x.2 / 96) L := List.mem_filter.mpr ⟨hm, decide_eq_true ⟨rfl, z⟩⟩
    obtain ⟨-, -, -, a, e, -⟩ := i.2.2.1 (x.2 / 96) (by omega)
    rw [e] at hf
    split at hf
    · exact absurd hf List.not_mem_nil
    · exact ⟨a, List.mem_singleton.mp hf⟩
  refine ⟨nS, x.2 / 96, x.2 / 32 % 3, x.2 % 32, n6, R_n3 h i, hls, by omega, by omega, x2, x3, x4, fun z => ?_, fun z0 z1 zl => ?_⟩
  · obtain ⟨a, e⟩ := bits z
    have e2 : x.2 = hsg (x.2 / 96) (ph (x.2 / 96)) := congrArg Prod.snd e
    rw [e2]
    unfold hsg
    rw [(sig_dec (by split <;> decide) (by split <;> decide)).2.2]
    split <;> omega
  · obtain ⟨a, e⟩ := bits (by omega)
    have e2 : x.2 = hsg (x.2 / 96) (ph (x.2 / 96)) := congrArg Prod.snd e
    obtain ⟨q, hq⟩ : ∃ q, ph (x.2 / 96) = q := ⟨_, rfl⟩
    have e3 : x.2 / 32 % 3 = if q = 1 ∨ q = 4 then 0 else 1 := by
      have : (hsg (x.2 / 96) q) / 32 % 3 = if q = 1 ∨ q = 4 then 0 else 1 := (sig_dec (by split <;> decide) (by split <;> decide)).2.1
      rw [hq] at e2
      rw [← e2] at this
      exact this
    have e4 : x.2 % 32 = if q = 1 ∨ q = 3 then 1 else 0 := by
      have : (hsg (x.2 / 96) q) % 32 = if q = 1 ∨ q = 3 then 1 else 0 := (sig_dec (by split <;> decide) (by split <;> decide)).2.2
      rw [hq] at e2
      rw [← e2] at this
      exact this
    have q1 : q = 1 := by
      rw [z0] at e3
      rw [z1] at e4
      split at e3
      · split at e4
        · omega
        · omega
      · omega
    have hp : 1 ≤ p := by
      rw [i.2.2.2.2.1]
      have k7 : x.2 / 96 < 7 := by omega
      have m := S7_mem (f := fun k => pwt (ph k) (fu V k)) k7
      have one : pwt (ph (x.2 / 96)) (fu V (x.2 / 96)) = 1 := by
        rw [hq, q1]
        exact if_pos (Or.inl rfl)
      have m2 : pwt (ph (x.2 / 96)) (fu V (x.2 / 96)) ≤ S7 (fun k => pwt (ph k) (fu V k)) := m
      omega
    have m9 : M 1 9 = nI p := h.2.2.2.2.2.1.2.2.2.2.1
    rw [m9, tN_nI (by have := inv_p i; omega)]
    exact hp
theorem rn_of (h : Rel V (M 1) L n p) (i : Inv V L n p nS t ph cap) : Rn (M 1) 50 := by
  have hlen := inv_len i
  have hp := inv_p i
  obtain ⟨a, a1, a2, -⟩ := h.2.2.2.2.1 0 (by decide)
  obtain ⟨b, b1, b2, -⟩ := h.2.2.2.2.1 1 (by decide)
  refine ⟨by rw [h.2.2.1.1]; exact vp_in_nI' (by omega), (mf_of h i).2.1, ?_, ?_, ?_⟩
  · rw [show M 1 9 = nI p from h.2.2.2.2.2.1.2.2.2.2.1, tN_nI (by omega)]; omega
  · rw [show M 1 11 = nI a from (R_eq h (c := 27) (i := 0) (by decide)).symm.trans a2, tN_nI (by omega)]; omega
  · rw [show M 1 12 = nI b from (R_eq h (c := 28) (i := 0) (by decide)).symm.trans b2, tN_nI (by omega)]; omega
theorem lb_of (h : Rel V (M 1) L n p) (i : Inv V L n p nS t ph cap) (q : LQ G (M 1)) : lqLB G := by
  have hlen := inv_len i
  have r := rn_of h i
  have n6 := i.1.2.1
  have e3 := R_n3 h i
  refine ⟨by rw [LQ_q q (by decide)]; exact vp_mono r.1 (by decide), by rw [LQ_q q (by decide)]; exact (mf_of h i).2.2, by rw [LQ_q q (by decide)]; exact r.2.1, fun k hk => ?_⟩
  rw [LQ_q q (by decide), h.2.2.1.1, tN_nI (by omega)] at hk
  obtain ⟨-, kk, w, v, k7, w3, v32, s1, s2, s3, sg⟩ := q.2.2.2.2.1 k (by rw [h.2.2.1.1, tN_nI (by omega)]; exact hk)
  obtain ⟨x1, x2, x3, x4⟩ := h.2.2.1.2 k hk
  have hls := (i.2.1 _ (getD_mem hk)).2.2
  have ek : kk = (L.getD k (0, 0)).2 / 96 := (nI_eq (by omega) (by omega)).mp (s1.symm.trans x2)
  rw [sg]
  refine ⟨vp_in_nI' (by omega), ?_⟩
  rw [tN_nI (by omega), LQ_q q (by decide), e3, tN_nI (by omega)]
  omega
/-- the law finds the same change -/
theorem nxF_st {t : Nat → Int32} {T : Nat → Nat} {n : Nat} (ht : ∀ j, j < n → t j = nI (T j) ∧ T j < 2 ^ 31) (hn : n < 2 ^ 31) : ∀ (k j : Nat), k ≤ n → k ≤ j → j < n → (∀ i, k ≤ i → i < n → T j ≤ T i) → (∀ i, k ≤ i → i < j → T j < T i) → ∃ r, nxF t k (nI j) = nI r ∧ r < n ∧ (∀ i, i < n → T r ≤ T i) ∧ ∀ i, i < r → T r < T i
  | 0, j, _, _, hj, h1, h2 => ⟨j, rfl, hj, fun i hi => h1 i (Nat.zero_le i) hi, fun i hi => h2 i (Nat.zero_le i) hi⟩
  | k + 1, j, hk, hkj, hj, h1, h2 => by
    obtain ⟨a1, a2⟩ := ht k (by omega)
    obtain ⟨b1, b2⟩ := ht j hj
    have e : nxF t (k + 1) (nI j) = nxF t k (if t j < t k then nI j else nI k) := by
      show nxF t k (if nI j < 0 then nI k else if t (tN (nI j)) < t k then nI j else nI k) = _
      rw [if_neg (nI_pos (by omega)), tN_nI (by omega)]
    rw [e, a1, b1]
    by_cases z : T j < T k
    · rw [if_pos ((nI_ltI b2 a2).mpr z)]
      refine nxF_st ht hn k j (by omega) (by omega) hj (fun i x y => ?_) (fun i x y => ?_)
      · by_cases w : i = k
        · subst w; omega
        · exact h1 i (by omega) y
      · by_cases w : i = k
        · subst w; exact z
        · exact h2 i (by omega) y
    · rw [if_neg (fun y => z ((nI_ltI b2 a2).mp y))]
      refine nxF_st ht hn k k (by omega) (Nat.le_refl k) (by omega) (fun i x y => ?_) (fun i x y => by omega)
      by_cases w : i = k
      · subst w; exact Nat.le_refl _
      · have := h1 i (by omega) y
        omega
theorem nx_r {r : Nat} (h : Rel V (M 1) L n p) (i : Inv V L n p nS t ph cap) (ht : t < 2 ^ 29) (q : LQ G (M 1)) (hr : isF L r) : nxF (G 6) (tN (G 0 10)) (-1) = nI r := by
  have hlen := inv_len i
  rw [LQ_q q (by decide), h.2.2.1.1, tN_nI (by omega)]
  have hT := LQ_t h.2.2.1 (inv_t31 i ht) q (by omega)
  obtain ⟨m, hm⟩ : ∃ m, L.length = m + 1 := ⟨L.length - 1, by have := hr.1; omega⟩
  obtain ⟨r', e1, e2, e3, e4⟩ := nxF_st (t := G 6) (T := fun j => (L.getD j (0, 0)).1) (n := L.length) hT (by omega) m m (by omega) (Nat.le_refl m) (by omega) (fun i x y => by rw [show i = m by omega]; exact Nat.le_refl _) (fun i x y => by omega)
  have e : nxF (G 6) L.length (-1) = nxF (G 6) m (nI m) := by
    rw [hm]
    show nxF (G 6) m (if (-1 : Int32) < 0 then nI m else _) = _
    rw [if_pos (by decide)]
  rw [e, e1]
  have hrr : r' = r := by
    obtain ⟨r1, r2, r3⟩ := hr
    rcases Nat.lt_trichotomy r' r with z | z | z
    · have a := r3 r' z
      have b := e3 r r1
      try dsimp only at b
      omega
    · exact z
    · have a := e4 r z
      have b := r2 r' e2
      try dsimp only at a
      omega
  rw [hrr]
theorem arr_none (h : Rel V (M 1) [] n p) (q : LQ G (M 1)) (T : Int32) : CL_arrives G T = (nI 0, G) := by
  have e : tN (G 0 10) = 0 := by rw [LQ_q q (by decide), h.2.2.1.1]; exact tN_nI (by decide)
  unfold CL_arrives
  rw [e]
  exact if_pos (show (-1 : Int32) < 0 by decide)
theorem arr_some {r T : Nat} (h : Rel V (M 1) L n p) (i : Inv V L n p nS t ph cap) (ht : t < 2 ^ 29) (q : LQ G (M 1)) (hr : isF L r) (hT : T < 2 ^ 31) : CL_arrives G (nI T) = if T < (L.getD r (0, 0)).1 then (nI 0, G) else (nI 1, CL_arr G r) := by
  have hlen := inv_len i
  have h31 : r < 2 ^ 31 := by have := hr.1; omega
  obtain ⟨g6, x31⟩ := LQ_t h.2.2.1 (inv_t31 i ht) q (by omega) r hr.1
  unfold CL_arrives
  rw [nx_r h i ht q hr, if_neg (nI_pos h31), tN_nI h31, g6]
  by_cases z : T < (L.getD r (0, 0)).1
  · rw [if_pos z, if_pos ((nI_ltI hT x31).mpr z)]
  · rw [if_neg z, if_neg (fun y => z ((nI_ltI hT x31).mp y))]
end LQL
theorem loopL (T : Nat) (hT : T < 2 ^ 31) : ∀ (N : Nat) (V M G : Nat → Nat → Int32) (L : List (Nat × Nat)) (n p nS t cap : Nat) (ph : Nat → Nat), mu V L nS ph = N → Rel V (M 1) L n p → Inv V L n p nS t ph cap → Off V → LQ G (M 1) → t + 40 * N < 2 ^ 29 → cap < 2 ^ 29 → ∀ q, N < q →
    dueOK (nI T) q G ∧ LQ (dueLp (nI T) q G) (gtoL (nI T) q M 1) ∧ (∃ V' L' n' p' t' ph', Rel V' (gtoL (nI T) q M 1) L' n' p' ∧ Inv V' L' n' p' nS t' ph' cap ∧ Off V' ∧ t ≤ t' ∧ t' + 40 * mu V' L' nS ph' ≤ t + 40 * N) ∧ (t + 40 * N ≤ T → gtoL (nI T) q M = setL q M) := by
  intro N
  induction N with
  | zero =>
    intro V M G L n p nS t cap ph hmu h i o lq ht hcb q hq
    obtain ⟨q, rfl⟩ : ∃ r, q = r + 1 := ⟨q - 1, by omega⟩
    have hl := inv_len i
    cases L with
    | nil =>
      have e := next_0 h.2.2.1
      have ea := arr_none h lq (nI T)
      have e0 : (CL_arrives G (nI T)).1 = nI 0 := by rw [ea]
      have eg : gtoL (nI T) (q + 1) M = M := if_pos e
      have es : setL (q + 1) M = M := if_pos e
      have ed : dueLp (nI T) (q + 1) G = G := if_pos e0
      refine ⟨⟨lb_of h i lq, Or.inl e0⟩, by rw [ed, eg]; exact lq, ⟨V, [], n, p, t, ph, by rw [eg]; exact h, i, o, Nat.le_refl t, by omega⟩, fun _ => by rw [eg, es]⟩
    | cons x L =>
      obtain ⟨r, -, hr⟩ := next_M h.2.2.1 (by omega) (inv_t31 i (by omega)) (Nat.succ_pos _)
      obtain ⟨L', n', p', t', ph', -, -, hm, -⟩ := step h i hr (by omega) hcb
      omega
  | succ N ih =>
    intro V M G L n p nS t cap ph hmu h i o lq ht hcb q hq
    obtain ⟨q, rfl⟩ : ∃ r, q = r + 1 := ⟨q - 1, by omega⟩
    have hl := inv_len i
    by_cases hL : L = []
    · subst hL
      have e := next_0 h.2.2.1
      have ea := arr_none h lq (nI T)
      have e0 : (CL_arrives G (nI T)).1 = nI 0 := by rw [ea]
      have eg : gtoL (nI T) (q + 1) M = M := if_pos e
      have es : setL (q + 1) M = M := if_pos e
      have ed : dueLp (nI T) (q + 1) G = G := if_pos e0
      refine ⟨⟨lb_of h i lq, Or.inl e0⟩, by rw [ed, eg]; exact lq, ⟨V, [], n, p, t, ph, by rw [eg]; exact h, i, o, Nat.le_refl t, by omega⟩, fun _ => by rw [eg, es]⟩
    · obtain ⟨r, er, hr⟩ := next_M h.2.2.1 (by omega) (inv_t31 i (by omega)) (List.length_pos_iff.mpr hL)
      have hr31 : r < 2 ^ 31 := by have := hr.1; omega
      have ne : ¬ C8_nextChange M = (-5) := by rw [er]; exact nx_ne hr31
      have tr : tN (C8_nextChange M) = r := by rw [er]; exact tN_nI hr31
      obtain ⟨f1, f2, f3⟩ := first_of h i hr
      have hx31 := inv_t31 i (by omega) _ (getD_mem hr.1)
      have hx40 := (i.2.1 _ (getD_mem hr.1)).2.1
      have ea := arr_some (T := T) h i (by omega) lq hr hT
      by_cases c : T < (L.getD r (0, 0)).1
      · have cM : nI T < C8_whenOf M (tN (C8_nextChange M)) := by rw [tr, f3]; exact (nI_ltI hT hx31).mpr c
        have e0 : (CL_arrives G (nI T)).1 = nI 0 := by rw [ea, if_pos c]
        have eg : gtoL (nI T) (q + 1) M = M := by
          show (if _ then _ else _) = _
          rw [if_neg ne, if_pos cM]
        have ed : dueLp (nI T) (q + 1) G = G := if_pos e0
        refine ⟨⟨lb_of h i lq, Or.inl e0⟩, by rw [ed, eg]; exact lq, ⟨V, L, n, p, t, ph, by rw [eg]; exact h, i, o, Nat.le_refl t, by omega⟩, fun z => by omega⟩
      · have cM : ¬ nI T < C8_whenOf M (tN (C8_nextChange M)) := by rw [tr, f3, nI_ltI hT hx31]; exact c
        have e1 : CL_arrives G (nI T) = (nI 1, CL_arr G r) := by rw [ea, if_neg c]
        have ne1 : ¬ (CL_arrives G (nI T)).1 = nI 0 := by rw [e1]; show ¬ nI 1 = nI 0; decide
        obtain ⟨L', n', p', t', ph', R, I, hm, g1, g2, g3, g4⟩ := step h i hr (by omega) hcb
        have em : marS M = C8_arrive M r := by unfold marS; rw [tr]
        have e10 : tN (M 1 10) = L.length := by rw [h.2.2.1.1]; exact tN_nI (by omega)
        have ls : lqLS G M (49 + 1) := ⟨lq, rn_of h i⟩
        have lq2 := (S_arr ls (by decide) (by rw [e10]; exact hr.1) (nd_of h i o) (nr_of h i hr)).1
        have o2 : Off (lauS V) := off_lau i.1.2.1 i.1.2.2.1 (rwg_of h.2.2.2.2.1) o
        rw [← em] at R lq2
        obtain ⟨y1, y2, ⟨V2, L2, n2, p2, t2, ph2, y3, y4, y5, y6, y7⟩, y8⟩ := ih (lauS V) (marS M) (CL_arr G r) L' n' p' nS t' cap ph' (by omega) R I o2 lq2 (by omega) hcb q (by omega)
        have eg : gtoL (nI T) (q + 1) M = gtoL (nI T) q (marS M) := by
          show (if _ then _ else _) = _
          rw [if_neg ne, if_neg cM]
        have es : setL (q + 1) M = setL q (marS M) := if_neg ne
        have ed : dueLp (nI T) (q + 1) G = dueLp (nI T) q (CL_arr G r) := by
          show (if _ then _ else _) = _
          rw [if_neg ne1, e1]
        refine ⟨⟨lb_of h i lq, Or.inr (by rw [e1]; exact y1)⟩, by rw [ed, eg]; exact y2, ⟨V2, L2, n2, p2, t2, ph2, by rw [eg]; exact y3, y4, y5, by omega, by omega⟩, fun z => by rw [eg, es]; exact y8 (by omega)⟩
