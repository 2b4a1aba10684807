/-! the whole reading of a text, on both sides -/
theorem ord_end {T M : Nat → Nat → Int32} {len : Nat} (h : TR T M len len) : C6_readOrder T = (nI 0, T) ∧ (C8_readsOrder M).1 = nI 0 ∧ Mz M (C8_readsOrder M).2 ∧ TR T (C8_readsOrder M).2 len len := by
  have w4 : ∀ x : Int32, TR T (up1 M 0 4 x) len len := fun x => TR_fr h rfl rfl rfl (by rw [up1_at, if_neg (by decide)]) (by rw [up1_at, if_neg (by decide)]) (setC_ne (by decide))
  have z4 : ∀ x : Int32, up1 M 0 4 x 0 4 = x := fun x => by rw [up1_at, if_pos ⟨rfl, rfl⟩]
  unfold C6_readOrder C8_readsOrder
  try dsimp only
  rw [z4]
  rcases TR_cur h with ⟨hp, -⟩ | ⟨-, v2, v3⟩
  · exact absurd hp (Nat.lt_irrefl _)
  · rw [v2, v3, if_neg (by decide), if_neg (by decide), if_neg (by decide), if_neg (by decide), if_neg (by decide), if_neg (by decide), if_neg (by decide), if_neg (by decide), if_neg (by decide), if_neg (by decide), if_neg (by decide), if_neg (by decide)]
    exact ⟨rfl, rfl, Mz_up (Mz_r M) (by decide), w4 _⟩
/-- k orders are still to come, from place pos on; Tf is the text as it is read to its end -/
def Ch (Tf : Nat → Nat → Int32) (X5 : Nat → Int32) (len : Nat) : Nat → Nat → Nat → (Nat → Nat → Int32) → Prop
  | 0, n, pos, _ => pos = len + 1 ∧ Tf 0 1 = nI n
  | k + 1, n, pos, T => (∃ M, M 5 = X5 ∧ TR T M len pos) ∧ pos < len ∧ T 0 1 = nI n ∧ n < 20 ∧ (C6_readOrder T).1 = nI 1 ∧ Tf 2 n = (C6_readOrder T).2 2 n ∧ Tf 3 n = (C6_readOrder T).2 3 n ∧ Tf 4 n = (C6_readOrder T).2 4 n ∧ ∃ pos' T2, pos' ≤ len ∧ (C6_readOrder T).2 0 2 = nI pos' ∧ Ch Tf X5 len k (n + 1) (pos' + 1) T2
theorem Ch_n {Tf : Nat → Nat → Int32} {X5 : Nat → Int32} {len : Nat} : ∀ (k n pos : Nat) (T : Nat → Nat → Int32), Ch Tf X5 len k n pos T → Tf 0 1 = nI (n + k) := by
  intro k
  induction k with
  | zero => intro n pos T h; exact h.2
  | succ k ih =>
    intro n pos T h
    obtain ⟨-, -, -, -, -, -, -, -, pos', T2, -, -, h⟩ := h
    rw [ih _ _ _ h]
    congr 1
    omega
theorem st_at {T : Nat → Nat → Int32} {n : Nat} {a b x : Int32} : stT T n a b x 0 1 = nI (n + 1) ∧ stT T n a b x 0 0 = T 0 0 ∧ stT T n a b x 1 = T 1 ∧ stT T n a b x 2 n = a ∧ stT T n a b x 3 n = b ∧ stT T n a b x 4 n = x ∧ ∀ c j, c ≠ 0 → j ≠ n → stT T n a b x c j = T c j := by
  unfold stT
  refine ⟨?_, ?_, ?_, ?_, ?_, ?_, fun c j hc hj => ?_⟩
  · rw [up1_at, if_pos ⟨rfl, rfl⟩]
  · rw [up1_at, if_neg (by omega), up1_at, if_neg (by omega), up1_at, if_neg (by omega), up1_at, if_neg (by omega)]
  · exact (setC_ne (by decide)).trans ((setC_ne (by decide)).trans ((setC_ne (by decide)).trans (setC_ne (by decide))))
  · rw [up1_at, if_neg (by omega), up1_at, if_neg (by omega), up1_at, if_neg (by omega), up1_at, if_pos ⟨rfl, rfl⟩]
  · rw [up1_at, if_neg (by omega), up1_at, if_neg (by omega), up1_at, if_pos ⟨rfl, rfl⟩]
  · rw [up1_at, if_neg (by omega), up1_at, if_pos ⟨rfl, rfl⟩]
  · rw [up1_at, if_neg (by omega), up1_at, if_neg (by omega), up1_at, if_neg (by omega), up1_at, if_neg (by omega)]
theorem L6_step (q i : Nat) (T : Nat → Nat → Int32) : L6_readOrders (q + 1) i T = if (C6_readOrder T).1 = 0 then ((C6_readOrder T).2 0 2, (C6_readOrder T).2) else if (C6_readOrder T).2 0 2 < (C6_readOrder T).2 0 0 then (if (C6_readSign (C6_readOrder T).2 (nI 44)).1 = 0 then ((C6_readSign (C6_readOrder T).2 (nI 44)).2 0 2, (C6_readSign (C6_readOrder T).2 (nI 44)).2) else L6_readOrders q (i + 1) (C6_readSign (C6_readOrder T).2 (nI 44)).2) else ((-1), (C6_readOrder T).2) := rfl
theorem L8_step (q : Nat) (M : Nat → Nat → Int32) : L8_findFault (q + 1) M = if (C8_readsOrder M).1 = 0 then ((C8_readsOrder M).2 0 3, (C8_readsOrder M).2) else if (C8_readsOrder M).2 0 3 = (C8_readsOrder M).2 0 2 then ((-5), (C8_readsOrder M).2) else if C8_code (C8_readsOrder M).2 = nI 44 then L8_findFault q (up1 (C8_readsOrder M).2 0 3 ((C8_readsOrder M).2 0 3 + nI 1)) else ((C8_readsOrder M).2 0 3, (C8_readsOrder M).2) := rfl
theorem ff_step (q : Nat) (M : Nat → Nat → Int32) : ffOK (q + 1) M = ((∃ n : Nat, n ≤ 800000 ∧ mtOK M n) ∧ (¬ (C8_readsOrder M).1 = 0 → ¬ (C8_readsOrder M).2 0 3 = (C8_readsOrder M).2 0 2 → C8_code (C8_readsOrder M).2 = nI 44 → ffOK q (up1 (C8_readsOrder M).2 0 3 ((C8_readsOrder M).2 0 3 + nI 1)))) := rfl
theorem TR_mt {T M : Nat → Nat → Int32} {len pos : Nat} (h : TR T M len pos) : ∃ n : Nat, n ≤ 800000 ∧ mtOK M n := by
  obtain ⟨-, b, -, e, hp, hl, -⟩ := h
  exact ⟨61, by decide, by rw [b]; exact vp_in_nI' (by omega), by rw [e]; exact vp_in_nI' (by omega)⟩
/-- what both readings give -/
def RdA (X5 : Nat → Int32) (len n pos : Nat) (T M : Nat → Nat → Int32) (C R : Int32 × (Nat → Nat → Int32)) : Prop :=
  Mz M R.2 ∧ (∀ c j, (c = 2 ∨ c = 3 ∨ c = 4) → j < n → C.2 c j = T c j) ∧ C.2 0 0 = T 0 0 ∧ C.2 1 = T 1 ∧ (∃ n', n' ≤ 20 ∧ C.2 0 1 = nI n') ∧
   ((∃ f, f ≤ 60 ∧ C.1 = nI f ∧ R.1 = nI f) ∨ (C.1 = (-1) ∧ R.1 = (-5) ∧ ∃ k, 1 ≤ k ∧ Ch C.2 X5 len k n pos T))
theorem rd_both {X5 : Nat → Int32} {len : Nat} : ∀ (q n i pos qm : Nat) (T M : Nat → Nat → Int32), TR T M len pos → M 5 = X5 → T 0 1 = nI n → n + (q + 1) = 21 → 3 * n ≤ pos → q ≤ qm →
    ffOK (qm + 1) M ∧ RdA X5 len n pos T M (L6_readOrders (q + 1) i T) (L8_findFault (qm + 1) M) := by
  intro q
  induction q with
  | zero =>
    intro n i pos qm T M h m5 e hn hp hq
    have n20 : n = 20 := by omega
    have hpl : pos = len := by have := h.2.2.2.2.1; have := h.2.2.2.2.2.1; omega
    subst hpl
    obtain ⟨o1, o2, o3, o4⟩ := ord_end h
    have r0 : (C8_readsOrder M).1 = 0 := o2
    rw [ff_step, L6_step, L8_step, o1, if_pos (show (nI 0, T).1 = 0 from rfl), if_pos r0]
    refine ⟨⟨TR_mt h, fun z => absurd r0 z⟩, o3, fun _ _ _ _ => rfl, rfl, rfl, ⟨n, by omega, e⟩, Or.inl ⟨pos, h.2.2.2.2.2.1, h.2.2.1, o4.2.2.2.1⟩⟩
  | succ q ih =>
    intro n i pos qm T M h m5 e hn hp hq
    obtain ⟨qm, rfl⟩ : ∃ z, qm = z + 1 := ⟨qm - 1, by omega⟩
    have n20 : n < 20 := by omega
    obtain ⟨mz, ho⟩ := ord_both h e n20
    rw [ff_step, L6_step, L8_step]
    have hT : ∃ M, M 5 = X5 ∧ TR T M len pos := ⟨M, m5, h⟩
    obtain ⟨C, hC⟩ : ∃ z, z = C6_readOrder T := ⟨_, rfl⟩
    obtain ⟨R, hR⟩ : ∃ z, z = C8_readsOrder M := ⟨_, rfl⟩
    rw [← hC, ← hR] at ho
    rw [← hR] at mz
    rw [← hC, ← hR]
    rcases ho with ⟨c0, r0, tz, pos', t⟩ | ⟨a, b, x, pos', T', -, -, -, hpp, tz, eC, r1, -, -, -, t⟩
    · have c0' : C.1 = 0 := c0
      have r0' : R.1 = 0 := r0
      rw [if_pos c0', if_pos r0']
      refine ⟨⟨TR_mt h, fun z => absurd r0' z⟩, mz, fun c j hc _ => by show C.2 c j = T c j; rw [tz.1 c (by omega)], tz.2 0 (by decide), tz.1 1 (by decide), ⟨n, by omega, (tz.2 1 (by decide)).trans e⟩, Or.inl ⟨pos', Nat.le_trans t.2.2.2.2.1 t.2.2.2.2.2.1, t.2.2.1, t.2.2.2.1⟩⟩
    · have c1 : C.1 = nI 1 := by rw [eC]
      have eV : C.2 = stT T' n (nI a) (nI b) (nI x) := by rw [eC]
      have c1' : ¬ C.1 = 0 := by rw [c1]; decide
      have r1' : ¬ R.1 = 0 := by rw [r1]; decide
      obtain ⟨s01, s00, s1, s2, s3, s4, sf⟩ := st_at (T := T') (n := n) (a := nI a) (b := nI b) (x := nI x)
      rw [← eV] at s01 s00 s1 s2 s3 s4 sf
      have fr : ∀ c j, (c = 2 ∨ c = 3 ∨ c = 4) → j < n → C.2 c j = T c j := fun c j hc hj => by
        rw [sf c j (by omega) (by omega), tz.1 c (by omega)]
      have f00 : C.2 0 0 = T 0 0 := s00.trans (tz.2 0 (by decide))
      have f1 : C.2 1 = T 1 := s1.trans (tz.1 1 (by decide))
      obtain ⟨t00, t02, t2, t3, tp, tl, -⟩ := id t
      rw [if_neg c1', if_neg r1']
      have lt : (C.2 0 2 < C.2 0 0) ↔ pos' < len := by rw [t2, t00]; exact nI_ltI (by omega) (by omega)
      have eq : (R.2 0 3 = R.2 0 2) ↔ pos' = len := by rw [t3, t02]; exact nI_eq (by omega) (by omega)
      by_cases z : pos' = len
      · have nlt : ¬ C.2 0 2 < C.2 0 0 := fun y => by have := lt.mp y; omega
        have eqz := eq.mpr z
        rw [if_neg nlt, if_pos eqz]
        refine ⟨⟨TR_mt h, fun _ y => absurd (eq.mpr z) y⟩, mz, fr, f00, f1, ⟨n + 1, by omega, s01⟩, Or.inr ⟨rfl, rfl, 1, Nat.le_refl 1, ?_⟩⟩
        refine ⟨hT, by omega, e, n20, by rw [← hC]; exact c1, by rw [← hC], by rw [← hC], by rw [← hC], pos', T, by omega, by rw [← hC]; exact t2, by omega, s01⟩
      · have ltz : C.2 0 2 < C.2 0 0 := lt.mpr (by omega)
        have neq : ¬ R.2 0 3 = R.2 0 2 := fun y => z (eq.mp y)
        rw [if_pos ltz, if_neg neq]
        rcases sign_both (s := 44) t (by decide) (by decide) with ⟨hp2, b1, b2⟩ | ⟨b1, b2⟩
        · have n1 : ¬ (nI 1, up1 C.2 0 2 (C.2 0 2 + nI 1)).1 = 0 := (show ¬ nI 1 = 0 by decide)
          rw [b1, if_neg n1, if_pos b2]
          have t4 := TR_next t hp2
          obtain ⟨M2, hM2⟩ : ∃ z, z = up1 R.2 0 3 (R.2 0 3 + nI 1) := ⟨_, rfl⟩
          obtain ⟨T2, hT2⟩ : ∃ z, z = up1 C.2 0 2 (C.2 0 2 + nI 1) := ⟨_, rfl⟩
          have mz2 : Mz M M2 := by rw [hM2]; exact Mz_up mz (by decide)
          have tz2 : Tz C.2 T2 := by rw [hT2]; exact Tz_up (Tz_r C.2)
          rw [← hM2, ← hT2] at t4
          show ((∃ n : Nat, n ≤ 800000 ∧ mtOK M n) ∧ (¬ R.1 = 0 → ¬ R.2 0 3 = R.2 0 2 → C8_code R.2 = nI 44 → ffOK (qm + 1) (up1 R.2 0 3 (R.2 0 3 + nI 1)))) ∧ RdA X5 len n pos T M (L6_readOrders (q + 1) (i + 1) (up1 C.2 0 2 (C.2 0 2 + nI 1))) (L8_findFault (qm + 1) (up1 R.2 0 3 (R.2 0 3 + nI 1)))
          rw [← hM2, ← hT2]
          obtain ⟨g1, g2, g3, g4, g5, g6, g7⟩ := ih (n + 1) (i + 1) (pos' + 1) qm T2 M2 t4 ((mz2.1 5 (by decide)).trans m5) ((tz2.2 1 (by decide)).trans s01) (by omega) (by omega) (by omega)
          obtain ⟨LC, hLC⟩ : ∃ z, z = L6_readOrders (q + 1) (i + 1) T2 := ⟨_, rfl⟩
          rw [← hLC] at g3 g4 g5 g6 g7
          rw [← hLC]
          refine ⟨⟨TR_mt h, fun _ _ _ => g1⟩, ⟨fun c hc => (g2.1 c hc).trans (mz2.1 c hc), fun j hj => (g2.2 j hj).trans (mz2.2 j hj)⟩, fun c j hc hj => ?_, ?_, ?_, g6, ?_⟩
          · rw [g3 c j hc (by omega), tz2.1 c (by omega)]
            exact fr c j hc hj
          · exact g4.trans ((tz2.2 0 (by decide)).trans f00)
          · exact g5.trans ((tz2.1 1 (by decide)).trans f1)
          · rcases g7 with g7 | ⟨y1, y2, k, k1, y3⟩
            · exact Or.inl g7
            · refine Or.inr ⟨y1, y2, k + 1, by omega, hT, by omega, e, n20, by rw [← hC]; exact c1, ?_, ?_, ?_, pos', T2, by omega, by rw [← hC]; exact t2, y3⟩
              · rw [← hC, g3 2 n (by omega) (by omega), tz2.1 2 (by decide)]
              · rw [← hC, g3 3 n (by omega) (by omega), tz2.1 3 (by decide)]
              · rw [← hC, g3 4 n (by omega) (by omega), tz2.1 4 (by decide)]
        · rw [b1, if_pos (show (nI 0, C.2).1 = 0 from rfl), if_neg b2]
          exact ⟨⟨TR_mt h, fun _ _ y => absurd y b2⟩, mz, fr, f00, f1, ⟨n + 1, by omega, s01⟩, Or.inl ⟨pos', by omega, t2, t3⟩⟩
