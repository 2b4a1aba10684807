/-! what of a line counts; a copy has the same -/
def lenC (c : Nat) : Nat := if c = 0 then 5 else if c = 1 then 3 else if c = 2 then 6 else if c = 3 then 8 else if c = 4 then 2 else if c < 7 then 64 else if c = 7 then 2 else if c < 11 then 50 else if c < 18 then 9 else if c < 25 then 3 else if c < 27 then 20 else 1
def AG (V W : Nat → Nat → Int32) : Prop := ∀ c i, c < 29 → i < lenC c → V c i = W c i
theorem AG_i {V W : Nat → Nat → Int32} (h : AG V W) {c i : Nat} (hc : c < 29) (hi : i < lenC c) : V c i = W c i := h c i hc hi
theorem lenC_DM {c i : Nat} (h : DM c i) : c < 29 ∧ i < lenC c := by
  unfold DM at h
  refine ⟨by omega, ?_⟩
  unfold lenC
  repeat' split
  all_goals omega
theorem ring_ag {V W : Nat → Nat → Int32} {L : List (Nat × Nat)} (h : ringL W L) (a : AG V W) : ringL V L := by
  obtain ⟨h1, h2, h3, hd, h4, h5, h6⟩ := h
  refine ⟨h1, h2, by rw [a 4 1 (by decide) (by decide)]; exact h3, hd, h4, by rw [a 4 0 (by decide) (by decide)]; exact h5, fun i hi => ?_⟩
  have hm : (hd + i) % 64 < 64 := Nat.mod_lt _ (by decide)
  rw [a 5 _ (by decide) hm, a 6 _ (by decide) hm]
  exact h6 i hi
theorem Rel_ag {V W : Nat → Nat → Int32} {m : Nat → Int32} {L : List (Nat × Nat)} {n p : Nat} (h : Rel W m L n p) (a : AG V W) : Rel V m L n p := by
  obtain ⟨h1, h2, h3, h4, h5, ⟨p1, p2, p3, p4, p5, p6⟩, h7⟩ := h
  refine ⟨E_V h1 (fun c i hd => a c i (lenC_DM hd).1 (lenC_DM hd).2), ring_ag h2 a, h3, fun i hi => ?_, fun s hs => ?_, ⟨p1, p2, by rw [a 7 0 (by decide) (by decide)]; exact p3, by rw [a 0 3 (by decide) (by decide)]; exact p4, p5, fun j hj => ?_⟩, fun r hr h50 => ?_⟩
  · rw [a 2 i (by decide) hi]; exact h4 i hi
  · obtain ⟨k, k1, k2, k3⟩ := h5 s hs
    have l1 : 0 < lenC (27 + s) := by
      rcases (show s = 0 ∨ s = 1 by omega) with rfl | rfl <;> decide
    have l2 : lenC (25 + s) = 20 := by
      rcases (show s = 0 ∨ s = 1 by omega) with rfl | rfl <;> rfl
    refine ⟨k, k1, by rw [a _ 0 (by omega) l1]; exact k2, fun j hj => ?_⟩
    rw [a _ j (by omega) (by omega)]
    exact k3 j hj
  · rw [a 3 _ (by decide) (show (n + j) % 8 < 8 from Nat.mod_lt _ (by decide))]; exact p6 j hj
  · have hm : (n - 1 - r) % 50 < 50 := Nat.mod_lt _ (by decide)
    rw [a 8 _ (by decide) hm, a 9 _ (by decide) hm, a 10 _ (by decide) hm]
    exact h7 r hr h50
theorem ag_lk {V W : Nat → Nat → Int32} (a : AG V W) {k i : Nat} (hk : k < 7) (hi : i < 9) : V (11 + k) i = W (11 + k) i := by
  refine a _ _ (by omega) ?_
  unfold lenC
  rw [if_neg (by omega), if_neg (by omega), if_neg (by omega), if_neg (by omega), if_neg (by omega), if_neg (by omega), if_neg (by omega), if_neg (by omega), if_pos (by omega)]
  exact hi
theorem ag_del {V W : Nat → Nat → Int32} (a : AG V W) {k i : Nat} (hk : k < 7) (hi : i < 3) : V (18 + k) i = W (18 + k) i := by
  refine a _ _ (by omega) ?_
  unfold lenC
  rw [if_neg (by omega), if_neg (by omega), if_neg (by omega), if_neg (by omega), if_neg (by omega), if_neg (by omega), if_neg (by omega), if_neg (by omega), if_neg (by omega), if_pos (by omega)]
  exact hi
theorem fu_ag {V W : Nat → Nat → Int32} (a : AG V W) {i : Nat} (hi : i < 7) : fu V i = fu W i := fu_same (fun k hk => a 2 k (by decide) hk) hi
theorem wt_ag {V W : Nat → Nat → Int32} (a : AG V W) : wtN V = wtN W := wt_same (a 27 0 (by decide) (by decide)) (a 28 0 (by decide) (by decide))
theorem Vals_ag {V W : Nat → Nat → Int32} {nS t : Nat} (h : Vals W nS t) (a : AG V W) : Vals V nS t := by
  obtain ⟨x, y, c, d, ⟨le, e1, e2⟩, ⟨th, f1, f2⟩, g, k⟩ := h
  refine ⟨x, y, by rw [a 0 0 (by decide) (by decide)]; exact c, by rw [a 0 1 (by decide) (by decide)]; exact d, ⟨le, e1, by rw [a 1 0 (by decide) (by decide)]; exact e2⟩, ⟨th, f1, by rw [a 1 1 (by decide) (by decide)]; exact f2⟩, fun j hj w hw => ?_, fun j hj => ?_⟩
  · rw [ag_del a hj hw]; exact g j hj w hw
  · rw [ag_lk a hj (by decide)]; exact k j hj
theorem Inv_ag {V W : Nat → Nat → Int32} {L : List (Nat × Nat)} {n p nS t cap : Nat} {ph : Nat → Nat} (h : Inv W L n p nS t ph cap) (a : AG V W) : Inv V L n p nS t ph cap := by
  obtain ⟨v, ls, lk, sg, pp, cp⟩ := h
  refine ⟨Vals_ag v a, ls, fun k hk => lk_far (lk k hk) (ag_lk a hk (by decide)) (ag_lk a hk (by decide)) rfl rfl, stg_eq sg (by have := v.2.1; omega) (fun i hi => fu_ag a hi), ?_, by rw [wt_ag a]; exact cp⟩
  rw [pp]
  exact (S7_eq (fun i hi => by show pwt _ (fu V i) = pwt _ (fu W i); rw [fu_ag a hi])).symm
theorem AG_rfl (V : Nat → Nat → Int32) : AG V V := fun _ _ _ _ => rfl
theorem AG_trans {U V W : Nat → Nat → Int32} (h : AG U V) (g : AG V W) : AG U W := fun c i hc hi => (h c i hc hi).trans (g c i hc hi)
/-! the class's copy -/
theorem cpC_at {V W : Nat → Nat → Int32} {c0 n c i : Nat} : cpC V W c0 n c i = if c = c0 ∧ i < n then W c i else V c i := by
  show setC V c0 (va_cpy (W c0) (V c0) 0 0 n) c i = _
  by_cases h : c = c0
  · subst h
    rw [setC_eq]
    by_cases h2 : i < n
    · rw [pk_cpy_in (Nat.zero_le _) (by omega), if_pos ⟨rfl, h2⟩]; congr 1; omega
    · rw [pk_cpy_out (by omega), if_neg (fun z => h2 z.2)]
  · rw [setC_ne h, if_neg (fun z => h z.1)]
theorem c3_at {U W : Nat → Nat → Int32} {i : Nat} : (C3_copyFrom U W 0 i = if i < 9 then W 0 i else U 0 i) ∧ (C3_copyFrom U W 1 i = if i < 3 then W 1 i else U 1 i) := by
  unfold C3_copyFrom
  try dsimp only
  constructor
  · by_cases h : i < 9
    · rw [if_pos h]
      rcases (show i = 0 ∨ i = 1 ∨ i = 2 ∨ i = 3 ∨ i = 4 ∨ i = 5 ∨ i = 6 ∨ i = 7 ∨ i = 8 by omega) with rfl | rfl | rfl | rfl | rfl | rfl | rfl | rfl | rfl <;> rfl
    · rw [if_neg h]
      rw [up1_oi (by omega), up1_oi (by omega), up1_oi (by omega), up1_oi (by omega), up1_oi (by omega), up1_oi (by omega), up1_oi (by omega), up1_oi (by omega), up1_oi (by omega)]
      rfl
  · show va_cpy (W 1) (U 1) 0 0 3 i = _
    by_cases h2 : i < 3
    · rw [pk_cpy_in (Nat.zero_le _) (by omega), if_pos h2]; congr 1; omega
    · rw [pk_cpy_out (by omega), if_neg h2]
theorem wr3_at {V W : Nat → Nat → Int32} {k c i : Nat} : wr3_copyFrom V k W c i = if (c = 11 + k ∧ i < 9) ∨ (c = 18 + k ∧ i < 3) then W c i else V c i := by
  show setC (setC V (11 + k) (C3_copyFrom (lkU V k) (lkU W k) 0)) (18 + k) (C3_copyFrom (lkU V k) (lkU W k) 1) c i = _
  by_cases h : c = 18 + k
  · subst h
    rw [setC_eq, c3_at.2]
    by_cases h2 : i < 3
    · rw [if_pos h2, if_pos (Or.inr ⟨rfl, h2⟩)]; rfl
    · rw [if_neg h2, if_neg (by omega)]; rfl
  · rw [setC_ne h]
    by_cases h1 : c = 11 + k
    · subst h1
      rw [setC_eq, c3_at.1]
      by_cases h2 : i < 9
      · rw [if_pos h2, if_pos (Or.inl ⟨rfl, h2⟩)]; rfl
      · rw [if_neg h2, if_neg (by omega)]; rfl
    · rw [setC_ne h1, if_neg (by omega)]
theorem wr5_at {V W : Nat → Nat → Int32} {k c i : Nat} : wr5_copyFrom V k W c i = if (c = 27 + k ∧ i < 1) ∨ (c = 25 + k ∧ i < 20) then W c i else V c i := by
  show setC (setC V (27 + k) (C5_copyFrom (rwU V k) (rwU W k) 0)) (25 + k) (C5_copyFrom (rwU V k) (rwU W k) 1) c i = _
  by_cases h : c = 25 + k
  · subst h
    rw [setC_eq]
    show va_cpy (W (25 + k)) (V (25 + k)) 0 0 20 i = _
    by_cases h2 : i < 20
    · rw [pk_cpy_in (Nat.zero_le _) (by omega), if_pos (Or.inr ⟨rfl, h2⟩)]; congr 1; omega
    · rw [pk_cpy_out (by omega), if_neg (by omega)]
  · rw [setC_ne h]
    by_cases h1 : c = 27 + k
    · subst h1
      rw [setC_eq]
      show upd (V (27 + k)) 0 (W (27 + k) 0) i = _
      rw [upd_at]
      by_cases h2 : i = 0
      · rw [if_pos h2, if_pos (by omega), h2]
      · rw [if_neg h2, if_neg (by omega)]
    · rw [setC_ne h1, if_neg (by omega)]
theorem wr0_at {V W : Nat → Nat → Int32} {c i : Nat} : wr0_copyFrom V W c i = if (c = 4 ∧ i < 2) ∨ ((c = 5 ∨ c = 6) ∧ i < 64) then W c i else V c i := by
  show setC (setC (setC V 4 (C0_copyFrom (chU V) (chU W) 0)) 5 (C0_copyFrom (chU V) (chU W) 1)) 6 (C0_copyFrom (chU V) (chU W) 2) c i = _
  by_cases h6 : c = 6
  · subst h6
    rw [setC_eq]
    show va_cpy (W 6) (V 6) 0 0 64 i = _
    by_cases h2 : i < 64
    · rw [pk_cpy_in (Nat.zero_le _) (by omega), if_pos (by omega)]; congr 1; omega
    · rw [pk_cpy_out (by omega), if_neg (by omega)]
  · rw [setC_ne h6]
    by_cases h5 : c = 5
    · subst h5
      rw [setC_eq]
      show va_cpy (W 5) (V 5) 0 0 64 i = _
      by_cases h2 : i < 64
      · rw [pk_cpy_in (Nat.zero_le _) (by omega), if_pos (by omega)]; congr 1; omega
      · rw [pk_cpy_out (by omega), if_neg (by omega)]
    · rw [setC_ne h5]
      by_cases h4 : c = 4
      · subst h4
        rw [setC_eq]
        show upd (upd (V 4) 0 (W 4 0)) 1 (W 4 1) i = _
        rw [upd_at, upd_at]
        by_cases h2 : i = 1
        · rw [if_pos h2, if_pos (by omega), h2]
        · rw [if_neg h2]
          by_cases h3 : i = 0
          · rw [if_pos h3, if_pos (by omega), h3]
          · rw [if_neg h3, if_neg (by omega)]
      · rw [setC_ne h4, if_neg (by omega)]
theorem wr4_at {V W : Nat → Nat → Int32} {c i : Nat} : wr4_copyFrom V W c i = if (c = 7 ∧ i < 2) ∨ ((c = 8 ∨ c = 9 ∨ c = 10) ∧ i < 50) then W c i else V c i := by
  show setC (setC (setC (setC V 7 (C4_copyFrom (ntU V) (ntU W) 0)) 8 (C4_copyFrom (ntU V) (ntU W) 1)) 9 (C4_copyFrom (ntU V) (ntU W) 2)) 10 (C4_copyFrom (ntU V) (ntU W) 3) c i = _
  have cp : ∀ (d : Nat), d ≠ 7 → (d = 8 ∨ d = 9 ∨ d = 10) → va_cpy (W d) (V d) 0 0 50 i = if (d = 7 ∧ i < 2) ∨ ((d = 8 ∨ d = 9 ∨ d = 10) ∧ i < 50) then W d i else V d i := fun d _ hd => by
    by_cases h2 : i < 50
    · rw [pk_cpy_in (Nat.zero_le _) (by omega), if_pos (Or.inr ⟨hd, h2⟩)]; congr 1; omega
    · rw [pk_cpy_out (by omega), if_neg (by omega)]
  by_cases h10 : c = 10
  · subst h10; rw [setC_eq]; exact cp 10 (by decide) (by decide)
  · rw [setC_ne h10]
    by_cases h9 : c = 9
    · subst h9; rw [setC_eq]; exact cp 9 (by decide) (by decide)
    · rw [setC_ne h9]
      by_cases h8 : c = 8
      · subst h8; rw [setC_eq]; exact cp 8 (by decide) (by decide)
      · rw [setC_ne h8]
        by_cases h7 : c = 7
        · subst h7
          rw [setC_eq]
          show upd (upd (V 7) 0 (W 7 0)) 1 (W 7 1) i = _
          rw [upd_at, upd_at]
          by_cases h2 : i = 1
          · rw [if_pos h2, if_pos (by omega), h2]
          · rw [if_neg h2]
            by_cases h3 : i = 0
            · rw [if_pos h3, if_pos (by omega), h3]
            · rw [if_neg h3, if_neg (by omega)]
        · rw [setC_ne h7, if_neg (by omega)]
theorem agc_3_0 (V W : Nat → Nat → Int32) (c i : Nat) (h : c = 3 ∧ i < 8) : C2_copyFrom V W c i = W c i := by
  unfold C2_copyFrom
  try dsimp only
  rw [cpC_at, if_pos (by omega)]
theorem agc_7_0 (V W : Nat → Nat → Int32) (c i : Nat) (h : c = 7 ∧ i < 2) : C2_copyFrom V W c i = W c i := by
  unfold C2_copyFrom
  try dsimp only
  rw [cpC_at, if_neg (by omega)]
  rw [wr4_at, if_pos (by omega)]
theorem agc_7_1 (V W : Nat → Nat → Int32) (c i : Nat) (h : (c = 8 ∨ c = 9 ∨ c = 10) ∧ i < 50) : C2_copyFrom V W c i = W c i := by
  unfold C2_copyFrom
  try dsimp only
  rw [cpC_at, if_neg (by omega)]
  rw [wr4_at, if_pos (by omega)]
theorem agc_4_0 (V W : Nat → Nat → Int32) (c i : Nat) (h : c = 4 ∧ i < 2) : C2_copyFrom V W c i = W c i := by
  unfold C2_copyFrom
  try dsimp only
  rw [cpC_at, if_neg (by omega)]
  rw [wr4_at, if_neg (by omega)]
  rw [wr0_at, if_pos (by omega)]
theorem agc_4_1 (V W : Nat → Nat → Int32) (c i : Nat) (h : (c = 5 ∨ c = 6) ∧ i < 64) : C2_copyFrom V W c i = W c i := by
  unfold C2_copyFrom
  try dsimp only
  rw [cpC_at, if_neg (by omega)]
  rw [wr4_at, if_neg (by omega)]
  rw [wr0_at, if_pos (by omega)]
theorem agc_r1_0 (V W : Nat → Nat → Int32) (c i : Nat) (h : c = 28 ∧ i < 1) : C2_copyFrom V W c i = W c i := by
  unfold C2_copyFrom
  try dsimp only
  rw [cpC_at, if_neg (by omega)]
  rw [wr4_at, if_neg (by omega)]
  rw [wr0_at, if_neg (by omega)]
  rw [wr5_at, if_pos (by omega)]
theorem agc_r1_1 (V W : Nat → Nat → Int32) (c i : Nat) (h : c = 26 ∧ i < 20) : C2_copyFrom V W c i = W c i := by
  unfold C2_copyFrom
  try dsimp only
  rw [cpC_at, if_neg (by omega)]
  rw [wr4_at, if_neg (by omega)]
  rw [wr0_at, if_neg (by omega)]
  rw [wr5_at, if_pos (by omega)]
theorem agc_r0_0 (V W : Nat → Nat → Int32) (c i : Nat) (h : c = 27 ∧ i < 1) : C2_copyFrom V W c i = W c i := by
  unfold C2_copyFrom
  try dsimp only
  rw [cpC_at, if_neg (by omega)]
  rw [wr4_at, if_neg (by omega)]
  rw [wr0_at, if_neg (by omega)]
  rw [wr5_at, if_neg (by omega)]
  rw [wr5_at, if_pos (by omega)]
theorem agc_r0_1 (V W : Nat → Nat → Int32) (c i : Nat) (h : c = 25 ∧ i < 20) : C2_copyFrom V W c i = W c i := by
  unfold C2_copyFrom
  try dsimp only
  rw [cpC_at, if_neg (by omega)]
  rw [wr4_at, if_neg (by omega)]
  rw [wr0_at, if_neg (by omega)]
  rw [wr5_at, if_neg (by omega)]
  rw [wr5_at, if_pos (by omega)]
theorem agc_2_0 (V W : Nat → Nat → Int32) (c i : Nat) (h : c = 2 ∧ i < 6) : C2_copyFrom V W c i = W c i := by
  unfold C2_copyFrom
  try dsimp only
  rw [cpC_at, if_neg (by omega)]
  rw [wr4_at, if_neg (by omega)]
  rw [wr0_at, if_neg (by omega)]
  rw [wr5_at, if_neg (by omega)]
  rw [wr5_at, if_neg (by omega)]
  rw [cpC_at, if_pos (by omega)]
theorem agc_lk6_0 (V W : Nat → Nat → Int32) (c i : Nat) (h : c = 17 ∧ i < 9) : C2_copyFrom V W c i = W c i := by
  unfold C2_copyFrom
  try dsimp only
  rw [cpC_at, if_neg (by omega)]
  rw [wr4_at, if_neg (by omega)]
  rw [wr0_at, if_neg (by omega)]
  rw [wr5_at, if_neg (by omega)]
  rw [wr5_at, if_neg (by omega)]
  rw [cpC_at, if_neg (by omega)]
  rw [wr3_at, if_pos (by omega)]
theorem agc_lk6_1 (V W : Nat → Nat → Int32) (c i : Nat) (h : c = 24 ∧ i < 3) : C2_copyFrom V W c i = W c i := by
  unfold C2_copyFrom
  try dsimp only
  rw [cpC_at, if_neg (by omega)]
  rw [wr4_at, if_neg (by omega)]
  rw [wr0_at, if_neg (by omega)]
  rw [wr5_at, if_neg (by omega)]
  rw [wr5_at, if_neg (by omega)]
  rw [cpC_at, if_neg (by omega)]
  rw [wr3_at, if_pos (by omega)]
theorem agc_lk5_0 (V W : Nat → Nat → Int32) (c i : Nat) (h : c = 16 ∧ i < 9) : C2_copyFrom V W c i = W c i := by
  unfold C2_copyFrom
  try dsimp only
  rw [cpC_at, if_neg (by omega)]
  rw [wr4_at, if_neg (by omega)]
  rw [wr0_at, if_neg (by omega)]
  rw [wr5_at, if_neg (by omega)]
  rw [wr5_at, if_neg (by omega)]
  rw [cpC_at, if_neg (by omega)]
  rw [wr3_at, if_neg (by omega)]
  rw [wr3_at, if_pos (by omega)]
theorem agc_lk5_1 (V W : Nat → Nat → Int32) (c i : Nat) (h : c = 23 ∧ i < 3) : C2_copyFrom V W c i = W c i := by
  unfold C2_copyFrom
  try dsimp only
  rw [cpC_at, if_neg (by omega)]
  rw [wr4_at, if_neg (by omega)]
  rw [wr0_at, if_neg (by omega)]
  rw [wr5_at, if_neg (by omega)]
  rw [wr5_at, if_neg (by omega)]
  rw [cpC_at, if_neg (by omega)]
  rw [wr3_at, if_neg (by omega)]
  rw [wr3_at, if_pos (by omega)]
theorem agc_lk4_0 (V W : Nat → Nat → Int32) (c i : Nat) (h : c = 15 ∧ i < 9) : C2_copyFrom V W c i = W c i := by
  unfold C2_copyFrom
  try dsimp only
  rw [cpC_at, if_neg (by omega)]
  rw [wr4_at, if_neg (by omega)]
  rw [wr0_at, if_neg (by omega)]
  rw [wr5_at, if_neg (by omega)]
  rw [wr5_at, if_neg (by omega)]
  rw [cpC_at, if_neg (by omega)]
  rw [wr3_at, if_neg (by omega)]
  rw [wr3_at, if_neg (by omega)]
  rw [wr3_at, if_pos (by omega)]
theorem agc_lk4_1 (V W : Nat → Nat → Int32) (c i : Nat) (h : c = 22 ∧ i < 3) : C2_copyFrom V W c i = W c i := by
  unfold C2_copyFrom
  try dsimp only
  rw [cpC_at, if_neg (by omega)]
  rw [wr4_at, if_neg (by omega)]
  rw [wr0_at, if_neg (by omega)]
  rw [wr5_at, if_neg (by omega)]
  rw [wr5_at, if_neg (by omega)]
  rw [cpC_at, if_neg (by omega)]
  rw [wr3_at, if_neg (by omega)]
  rw [wr3_at, if_neg (by omega)]
  rw [wr3_at, if_pos (by omega)]
theorem agc_lk3_0 (V W : Nat → Nat → Int32) (c i : Nat) (h : c = 14 ∧ i < 9) : C2_copyFrom V W c i = W c i := by
  unfold C2_copyFrom
  try dsimp only
  rw [cpC_at, if_neg (by omega)]
  rw [wr4_at, if_neg (by omega)]
  rw [wr0_at, if_neg (by omega)]
  rw [wr5_at, if_neg (by omega)]
  rw [wr5_at, if_neg (by omega)]
  rw [cpC_at, if_neg (by omega)]
  rw [wr3_at, if_neg (by omega)]
  rw [wr3_at, if_neg (by omega)]
  rw [wr3_at, if_neg (by omega)]
  rw [wr3_at, if_pos (by omega)]
theorem agc_lk3_1 (V W : Nat → Nat → Int32) (c i : Nat) (h : c = 21 ∧ i < 3) : C2_copyFrom V W c i = W c i := by
  unfold C2_copyFrom
  try dsimp only
  rw [cpC_at, if_neg (by omega)]
  rw [wr4_at, if_neg (by omega)]
  rw [wr0_at, if_neg (by omega)]
  rw [wr5_at, if_neg (by omega)]
  rw [wr5_at, if_neg (by omega)]
  rw [cpC_at, if_neg (by omega)]
  rw [wr3_at, if_neg (by omega)]
  rw [wr3_at, if_neg (by omega)]
  rw [wr3_at, if_neg (by omega)]
  rw [wr3_at, if_pos (by omega)]
theorem agc_lk2_0 (V W : Nat → Nat → Int32) (c i : Nat) (h : c = 13 ∧ i < 9) : C2_copyFrom V W c i = W c i := by
  unfold C2_copyFrom
  try dsimp only
  rw [cpC_at, if_neg (by omega)]
  rw [wr4_at, if_neg (by omega)]
  rw [wr0_at, if_neg (by omega)]
  rw [wr5_at, if_neg (by omega)]
  rw [wr5_at, if_neg (by omega)]
  rw [cpC_at, if_neg (by omega)]
  rw [wr3_at, if_neg (by omega)]
  rw [wr3_at, if_neg (by omega)]
  rw [wr3_at, if_neg (by omega)]
  rw [wr3_at, if_neg (by omega)]
  rw [wr3_at, if_pos (by omega)]
theorem agc_lk2_1 (V W : Nat → Nat → Int32) (c i : Nat) (h : c = 20 ∧ i < 3) : C2_copyFrom V W c i = W c i := by
  unfold C2_copyFrom
  try dsimp only
  rw [cpC_at, if_neg (by omega)]
  rw [wr4_at, if_neg (by omega)]
  rw [wr0_at, if_neg (by omega)]
  rw [wr5_at, if_neg (by omega)]
  rw [wr5_at, if_neg (by omega)]
  rw [cpC_at, if_neg (by omega)]
  rw [wr3_at, if_neg (by omega)]
  rw [wr3_at, if_neg (by omega)]
  rw [wr3_at, if_neg (by omega)]
  rw [wr3_at, if_neg (by omega)]
  rw [wr3_at, if_pos (by omega)]
theorem agc_lk1_0 (V W : Nat → Nat → Int32) (c i : Nat) (h : c = 12 ∧ i < 9) : C2_copyFrom V W c i = W c i := by
  unfold C2_copyFrom
  try dsimp only
  rw [cpC_at, if_neg (by omega)]
  rw [wr4_at, if_neg (by omega)]
  rw [wr0_at, if_neg (by omega)]
  rw [wr5_at, if_neg (by omega)]
  rw [wr5_at, if_neg (by omega)]
  rw [cpC_at, if_neg (by omega)]
  rw [wr3_at, if_neg (by omega)]
  rw [wr3_at, if_neg (by omega)]
  rw [wr3_at, if_neg (by omega)]
  rw [wr3_at, if_neg (by omega)]
  rw [wr3_at, if_neg (by omega)]
  rw [wr3_at, if_pos (by omega)]
theorem agc_lk1_1 (V W : Nat → Nat → Int32) (c i : Nat) (h : c = 19 ∧ i < 3) : C2_copyFrom V W c i = W c i := by
  unfold C2_copyFrom
  try dsimp only
  rw [cpC_at, if_neg (by omega)]
  rw [wr4_at, if_neg (by omega)]
  rw [wr0_at, if_neg (by omega)]
  rw [wr5_at, if_neg (by omega)]
  rw [wr5_at, if_neg (by omega)]
  rw [cpC_at, if_neg (by omega)]
  rw [wr3_at, if_neg (by omega)]
  rw [wr3_at, if_neg (by omega)]
  rw [wr3_at, if_neg (by omega)]
  rw [wr3_at, if_neg (by omega)]
  rw [wr3_at, if_neg (by omega)]
  rw [wr3_at, if_pos (by omega)]
theorem agc_lk0_0 (V W : Nat → Nat → Int32) (c i : Nat) (h : c = 11 ∧ i < 9) : C2_copyFrom V W c i = W c i := by
  unfold C2_copyFrom
  try dsimp only
  rw [cpC_at, if_neg (by omega)]
  rw [wr4_at, if_neg (by omega)]
  rw [wr0_at, if_neg (by omega)]
  rw [wr5_at, if_neg (by omega)]
  rw [wr5_at, if_neg (by omega)]
  rw [cpC_at, if_neg (by omega)]
  rw [wr3_at, if_neg (by omega)]
  rw [wr3_at, if_neg (by omega)]
  rw [wr3_at, if_neg (by omega)]
  rw [wr3_at, if_neg (by omega)]
  rw [wr3_at, if_neg (by omega)]
  rw [wr3_at, if_neg (by omega)]
  rw [wr3_at, if_pos (by omega)]
theorem agc_lk0_1 (V W : Nat → Nat → Int32) (c i : Nat) (h : c = 18 ∧ i < 3) : C2_copyFrom V W c i = W c i := by
  unfold C2_copyFrom
  try dsimp only
  rw [cpC_at, if_neg (by omega)]
  rw [wr4_at, if_neg (by omega)]
  rw [wr0_at, if_neg (by omega)]
  rw [wr5_at, if_neg (by omega)]
  rw [wr5_at, if_neg (by omega)]
  rw [cpC_at, if_neg (by omega)]
  rw [wr3_at, if_neg (by omega)]
  rw [wr3_at, if_neg (by omega)]
  rw [wr3_at, if_neg (by omega)]
  rw [wr3_at, if_neg (by omega)]
  rw [wr3_at, if_neg (by omega)]
  rw [wr3_at, if_neg (by omega)]
  rw [wr3_at, if_pos (by omega)]
theorem agc_1_0 (V W : Nat → Nat → Int32) (c i : Nat) (h : c = 1 ∧ i < 3) : C2_copyFrom V W c i = W c i := by
  unfold C2_copyFrom
  try dsimp only
  rw [cpC_at, if_neg (by omega)]
  rw [wr4_at, if_neg (by omega)]
  rw [wr0_at, if_neg (by omega)]
  rw [wr5_at, if_neg (by omega)]
  rw [wr5_at, if_neg (by omega)]
  rw [cpC_at, if_neg (by omega)]
  rw [wr3_at, if_neg (by omega)]
  rw [wr3_at, if_neg (by omega)]
  rw [wr3_at, if_neg (by omega)]
  rw [wr3_at, if_neg (by omega)]
  rw [wr3_at, if_neg (by omega)]
  rw [wr3_at, if_neg (by omega)]
  rw [wr3_at, if_neg (by omega)]
  rw [cpC_at, if_pos (by omega)]
theorem agc_0_0 (V W : Nat → Nat → Int32) (c i : Nat) (h : c = 0 ∧ i < 5) : C2_copyFrom V W c i = W c i := by
  unfold C2_copyFrom
  try dsimp only
  rw [cpC_at, if_neg (by omega)]
  rw [wr4_at, if_neg (by omega)]
  rw [wr0_at, if_neg (by omega)]
  rw [wr5_at, if_neg (by omega)]
  rw [wr5_at, if_neg (by omega)]
  rw [cpC_at, if_neg (by omega)]
  rw [wr3_at, if_neg (by omega)]
  rw [wr3_at, if_neg (by omega)]
  rw [wr3_at, if_neg (by omega)]
  rw [wr3_at, if_neg (by omega)]
  rw [wr3_at, if_neg (by omega)]
  rw [wr3_at, if_neg (by omega)]
  rw [wr3_at, if_neg (by omega)]
  rw [cpC_at, if_neg (by omega)]
  obtain ⟨rfl, h0⟩ := h
  rcases (show i = 0 ∨ i = 1 ∨ i = 2 ∨ i = 3 ∨ i = 4 by omega) with rfl | rfl | rfl | rfl | rfl <;> rfl
theorem AG_copy (V W : Nat → Nat → Int32) : AG (C2_copyFrom V W) W := by
  intro c i hc hi
  unfold lenC at hi
  rcases (show c = 0 ∨ c = 1 ∨ c = 2 ∨ c = 3 ∨ c = 4 ∨ c = 5 ∨ c = 6 ∨ c = 7 ∨ c = 8 ∨ c = 9 ∨ c = 10 ∨ c = 11 ∨ c = 12 ∨ c = 13 ∨ c = 14 ∨ c = 15 ∨ c = 16 ∨ c = 17 ∨ c = 18 ∨ c = 19 ∨ c = 20 ∨ c = 21 ∨ c = 22 ∨ c = 23 ∨ c = 24 ∨ c = 25 ∨ c = 26 ∨ c = 27 ∨ c = 28 from by omega) with rfl | rfl | rfl | rfl | rfl | rfl | rfl | rfl | rfl | rfl | rfl | rfl | rfl | rfl | rfl | rfl | rfl | rfl | rfl | rfl | rfl | rfl | rfl | rfl | rfl | rfl | rfl | rfl | rfl
  · exact agc_0_0 V W 0 i (by have h9 : i < lenC 0 := hi; have h8 : lenC 0 = 5 := rfl; omega)
  · exact agc_1_0 V W 1 i (by have h9 : i < lenC 1 := hi; have h8 : lenC 1 = 3 := rfl; omega)
  · exact agc_2_0 V W 2 i (by have h9 : i < lenC 2 := hi; have h8 : lenC 2 = 6 := rfl; omega)
  · exact agc_3_0 V W 3 i (by have h9 : i < lenC 3 := hi; have h8 : lenC 3 = 8 := rfl; omega)
  · exact agc_4_0 V W 4 i (by have h9 : i < lenC 4 := hi; have h8 : lenC 4 = 2 := rfl; omega)
  · exact agc_4_1 V W 5 i (by have h9 : i < lenC 5 := hi; have h8 : lenC 5 = 64 := rfl; omega)
  · exact agc_4_1 V W 6 i (by have h9 : i < lenC 6 := hi; have h8 : lenC 6 = 64 := rfl; omega)
  · exact agc_7_0 V W 7 i (by have h9 : i < lenC 7 := hi; have h8 : lenC 7 = 2 := rfl; omega)
  · exact agc_7_1 V W 8 i (by have h9 : i < lenC 8 := hi; have h8 : lenC 8 = 50 := rfl; omega)
  · exact agc_7_1 V W 9 i (by have h9 : i < lenC 9 := hi; have h8 : lenC 9 = 50 := rfl; omega)
  · exact agc_7_1 V W 10 i (by have h9 : i < lenC 10 := hi; have h8 : lenC 10 = 50 := rfl; omega)
  · exact agc_lk0_0 V W 11 i (by have h9 : i < lenC 11 := hi; have h8 : lenC 11 = 9 := rfl; omega)
  · exact agc_lk1_0 V W 12 i (by have h9 : i < lenC 12 := hi; have h8 : lenC 12 = 9 := rfl; omega)
  · exact agc_lk2_0 V W 13 i (by have h9 : i < lenC 13 := hi; have h8 : lenC 13 = 9 := rfl; omega)
  · exact agc_lk3_0 V W 14 i (by have h9 : i < lenC 14 := hi; have h8 : lenC 14 = 9 := rfl; omega)
  · exact agc_lk4_0 V W 15 i (by have h9 : i < lenC 15 := hi; have h8 : lenC 15 = 9 := rfl; omega)
  · exact agc_lk5_0 V W 16 i (by have h9 : i < lenC 16 := hi; have h8 : lenC 16 = 9 := rfl; omega)
  · exact agc_lk6_0 V W 17 i (by have h9 : i < lenC 17 := hi; have h8 : lenC 17 = 9 := rfl; omega)
  · exact agc_lk0_1 V W 18 i (by have h9 : i < lenC 18 := hi; have h8 : lenC 18 = 3 := rfl; omega)
  · exact agc_lk1_1 V W 19 i (by have h9 : i < lenC 19 := hi; have h8 : lenC 19 = 3 := rfl; omega)
  · exact agc_lk2_1 V W 20 i (by have h9 : i < lenC 20 := hi; have h8 : lenC 20 = 3 := rfl; omega)
  · exact agc_lk3_1 V W 21 i (by have h9 : i < lenC 21 := hi; have h8 : lenC 21 = 3 := rfl; omega)
  · exact agc_lk4_1 V W 22 i (by have h9 : i < lenC 22 := hi; have h8 : lenC 22 = 3 := rfl; omega)
  · exact agc_lk5_1 V W 23 i (by have h9 : i < lenC 23 := hi; have h8 : lenC 23 = 3 := rfl; omega)
  · exact agc_lk6_1 V W 24 i (by have h9 : i < lenC 24 := hi; have h8 : lenC 24 = 3 := rfl; omega)
  · exact agc_r0_1 V W 25 i (by have h9 : i < lenC 25 := hi; have h8 : lenC 25 = 20 := rfl; omega)
  · exact agc_r1_1 V W 26 i (by have h9 : i < lenC 26 := hi; have h8 : lenC 26 = 20 := rfl; omega)
  · exact agc_r0_0 V W 27 i (by have h9 : i < lenC 27 := hi; have h8 : lenC 27 = 1 := rfl; omega)
  · exact agc_r1_0 V W 28 i (by have h9 : i < lenC 28 := hi; have h8 : lenC 28 = 1 := rfl; omega)
