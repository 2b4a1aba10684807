/-! what binds the law's rows and the numbers that the class's line answers to -/
abbrev DL (c i : Nat) : Prop := (c = 0 ∧ i < 13) ∨ (c = 1 ∧ i < 21) ∨ (c = 2 ∧ i < 42) ∨ (c = 3 ∧ i < 21)
def pe6 (i : Nat) : Nat := if i = 1 then 3 else if i = 2 then 4 else if i = 3 then 1 else if i = 4 then 2 else i
def qe6 (i : Nat) : Nat := if i = 3 then 1 else if i = 4 then 2 else if i = 1 then 3 else if i = 2 then 4 else i
def pl (c i : Nat) : Nat := if c = 0 then i else if c = 1 then 13 + i else if c = 2 then 34 + 6 * (i / 6) + pe6 (i % 6) else if i % 3 = 0 then 76 + i / 3 else if i % 3 = 1 then 83 + i / 3 else 90 + i / 3
def lpv (j : Nat) : Nat × Nat := if j < 13 then (0, j) else if j < 34 then (1, j - 13) else if j < 76 then (2, 6 * ((j - 34) / 6) + qe6 ((j - 34) % 6)) else if j < 83 then (3, 3 * (j - 76)) else if j < 90 then (3, 3 * (j - 83) + 1) else (3, 3 * (j - 90) + 2)
theorem DL_lt {c i : Nat} (h : DL c i) : c < 4 ∧ i < 42 := by
  unfold DL at h; omega
theorem lp_all : (List.range 4).all (fun c => (List.range 42).all (fun i => !(decide (DL c i)) || (decide (lpv (pl c i) = (c, i)) && decide (pl c i < 97)))) = true := by decide +kernel
theorem lp_pl {c i : Nat} (h : DL c i) : lpv (pl c i) = (c, i) ∧ pl c i < 97 := by
  have h1 := List.all_eq_true.mp (List.all_eq_true.mp lp_all c (List.mem_range.mpr (DL_lt h).1)) i (List.mem_range.mpr (DL_lt h).2)
  rw [decide_eq_true h] at h1
  simp only [Bool.not_true, Bool.false_or, Bool.and_eq_true, decide_eq_true_eq] at h1
  exact h1
theorem pl_inj {c i c' i' : Nat} (h : DL c i) (h' : DL c' i') (e : pl c i = pl c' i') : c = c' ∧ i = i' := by
  have h1 := (lp_pl h).1
  rw [e, (lp_pl h').1] at h1
  exact ⟨(congrArg Prod.fst h1).symm, (congrArg Prod.snd h1).symm⟩
def EscL (G : Nat → Nat → Int32) (m : Nat → Int32) : Prop := ∀ c i, DL c i → G c i = m (pl c i)
theorem EL_up {G : Nat → Nat → Int32} {m : Nat → Int32} {c i : Nat} {x : Int32} (h : EscL G m) (hd : DL c i) : EscL (up1 G c i x) (upd m (pl c i) x) := by
  intro c' i' hd'
  rw [up1_at, upd_at]
  by_cases e : c' = c ∧ i' = i
  · obtain ⟨rfl, rfl⟩ := e
    rw [if_pos ⟨rfl, rfl⟩, if_pos rfl]
  · rw [if_neg e, if_neg (fun z => e (pl_inj hd' hd z))]
    exact h c' i' hd'
theorem EL_G {G G' : Nat → Nat → Int32} {m : Nat → Int32} (h : EscL G m) (hv : ∀ c i, DL c i → G' c i = G c i) : EscL G' m := fun c i hd => (hv c i hd).trans (h c i hd)
theorem EL_m {G : Nat → Nat → Int32} {m m' : Nat → Int32} (h : EscL G m) (hm : ∀ j, j < 97 → m' j = m j) : EscL G m' := fun c i hd => by
  rw [hm _ (lp_pl hd).2]
  exact h c i hd
/-- the stages' words -/
def LHd (G : Nat → Nat → Int32) (m : Nat → Int32) : Prop := ∀ k, k < 6 → (G 3 (21 + k) = (-1) ∧ m (97 + k) = nI 0) ∨ ∃ w, w < 32 ∧ G 3 (21 + k) = nI w ∧ m (97 + k) = nI 1 ∧ m (103 + k) = nI w
def LRw (G : Nat → Nat → Int32) (m : Nat → Int32) : Prop := ∀ s, s < 2 → ∀ j, j < tN (m (11 + s)) → G 4 ((20 * s) + j) = m ((109 + (20 * s)) + j)
def LPn (G : Nat → Nat → Int32) (m : Nat → Int32) : Prop := ∀ j, j < tN (m 9) → G 5 j = m (149 + j)
def LCh (G : Nat → Nat → Int32) (m : Nat → Int32) : Prop := ∀ j, j < tN (m 10) → G 6 j = m ((319 + (4 * j)) + 0) ∧ ∃ k w v, k < 7 ∧ w < 3 ∧ v < 32 ∧ m ((319 + (4 * j)) + 1) = nI k ∧ m ((319 + (4 * j)) + 2) = nI w ∧ m ((319 + (4 * j)) + 3) = nI v ∧ G 7 j = nI ((k * 3 + w) * 32 + v)
def LNt (G : Nat → Nat → Int32) (m : Nat → Int32) : Prop := m 5 = nI 0 ∨ ∀ i, i < 3 → G 8 i = m (169 + i)
def LQ (G : Nat → Nat → Int32) (m : Nat → Int32) : Prop := EscL G m ∧ LHd G m ∧ LRw G m ∧ LPn G m ∧ LCh G m ∧ LNt G m
theorem LHd_of {G G' : Nat → Nat → Int32} {m m' : Nat → Int32} (h : LHd G m) (hg : ∀ k, k < 6 → G' 3 (21 + k) = G 3 (21 + k)) (hm : ∀ j, 97 ≤ j → j < 109 → m' j = m j) : LHd G' m' := fun k hk => by
  rw [hg k hk, hm (97 + k) (by omega) (by omega), hm (103 + k) (by omega) (by omega)]; exact h k hk
theorem LRw_of {G G' : Nat → Nat → Int32} {m m' : Nat → Int32} (h : LRw G m) (hg : G' 4 = G 4) (h1 : m' 11 = m 11) (h2 : m' 12 = m 12) (hm : ∀ j, 109 ≤ j → j < 149 → m' j = m j) (b1 : tN (m 11) ≤ 20) (b2 : tN (m 12) ≤ 20) : LRw G' m' := fun s hs j hj => by
  have e : m' (11 + s) = m (11 + s) := by
    match s, hs with
    | 0, _ => exact h1
    | 1, _ => exact h2
  have b : tN (m (11 + s)) ≤ 20 := by
    match s, hs with
    | 0, _ => exact b1
    | 1, _ => exact b2
  rw [e] at hj
  rw [hg, hm _ (by omega) (by omega)]
  exact h s hs j hj
theorem LPn_of {G G' : Nat → Nat → Int32} {m m' : Nat → Int32} (h : LPn G m) (hg : G' 5 = G 5) (h9 : m' 9 = m 9) (hm : ∀ j, 149 ≤ j → j < 169 → m' j = m j) (b : tN (m 9) ≤ 20) : LPn G' m' := fun j hj => by
  rw [h9] at hj
  rw [hg, hm _ (by omega) (by omega)]
  exact h j hj
theorem LCh_of {G G' : Nat → Nat → Int32} {m m' : Nat → Int32} (h : LCh G m) (h6 : G' 6 = G 6) (h7 : G' 7 = G 7) (h10 : m' 10 = m 10) (hm : ∀ j, 319 ≤ j → m' j = m j) : LCh G' m' := fun j hj => by
  rw [h10] at hj
  rw [h6, h7, hm _ (by omega), hm _ (by omega), hm _ (by omega), hm _ (by omega)]
  exact h j hj
theorem LNt_of {G G' : Nat → Nat → Int32} {m m' : Nat → Int32} (h : LNt G m) (h8 : G' 8 = G 8) (h5 : m' 5 = m 5) (hm : ∀ j, 169 ≤ j → j < 172 → m' j = m j) : LNt G' m' := by
  rcases h with h | h
  · exact Or.inl (h5.trans h)
  · exact Or.inr (fun i hi => by rw [h8, hm _ (by omega) (by omega)]; exact h i hi)
theorem pl_e {k f : Nat} (hk : k < 7) (hf : f < 6) : DL 2 ((6 * k) + f) ∧ pl 2 ((6 * k) + f) = (34 + (6 * k)) + pe6 f := by
  refine ⟨by unfold DL; omega, ?_⟩
  unfold pl
  rw [if_neg (by decide), if_neg (by decide), if_pos rfl, show (6 * k + f) / 6 = k by omega, show (6 * k + f) % 6 = f by omega]
theorem pl_f0 {k : Nat} (hk : k < 7) : DL 3 (3 * k) ∧ pl 3 (3 * k) = 76 + k := by
  refine ⟨by unfold DL; omega, ?_⟩
  unfold pl
  rw [if_neg (by decide), if_neg (by decide), if_neg (by decide), if_pos (by omega), show 3 * k / 3 = k by omega]
theorem pl_f1 {k : Nat} (hk : k < 7) : DL 3 ((3 * k) + 1) ∧ pl 3 ((3 * k) + 1) = 83 + k := by
  refine ⟨by unfold DL; omega, ?_⟩
  unfold pl
  rw [if_neg (by decide), if_neg (by decide), if_neg (by decide), if_neg (by omega), if_pos (by omega), show (3 * k + 1) / 3 = k by omega]
theorem pl_f2 {k : Nat} (hk : k < 7) : DL 3 ((3 * k) + 2) ∧ pl 3 ((3 * k) + 2) = 90 + k := by
  refine ⟨by unfold DL; omega, ?_⟩
  unfold pl
  rw [if_neg (by decide), if_neg (by decide), if_neg (by decide), if_neg (by omega), if_neg (by omega), show (3 * k + 2) / 3 = k by omega]
theorem LQ_e {G : Nat → Nat → Int32} {m : Nat → Int32} {k f p : Nat} (h : LQ G m) (hk : k < 7) (hf : f < 6) (hp : pe6 f = p) : G 2 ((6 * k) + f) = m ((34 + (6 * k)) + p) := by
  subst hp
  rw [← (pl_e hk hf).2]
  exact h.1 _ _ (pl_e hk hf).1
theorem LQ_q {G : Nat → Nat → Int32} {m : Nat → Int32} {i : Nat} (h : LQ G m) (hi : i < 13) : G 0 i = m i := h.1 0 i (Or.inl ⟨rfl, hi⟩)
theorem LQ_d {G : Nat → Nat → Int32} {m : Nat → Int32} {k w : Nat} (h : LQ G m) (hk : k < 7) (hw : w < 3) : G 1 ((3 * k) + w) = m ((13 + (3 * k)) + w) := by
  have e := h.1 1 ((3 * k) + w) (by unfold DL; omega)
  rw [e]
  show m (13 + ((3 * k) + w)) = _
  rw [show 13 + ((3 * k) + w) = (13 + (3 * k)) + w by omega]
