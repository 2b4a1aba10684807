/-! a line made new, on both sides -/
set_option maxRecDepth 100000 in
theorem clr_lk (V : Nat → Nat → Int32) (st : Int32) {k f : Nat} (hk : k < 7) (hf : f < 9) : C2_clearTo V st (11 + k) f = nI (if f = 6 then 1 else 0) := by
  rcases (show k = 0 ∨ k = 1 ∨ k = 2 ∨ k = 3 ∨ k = 4 ∨ k = 5 ∨ k = 6 by omega) with rfl | rfl | rfl | rfl | rfl | rfl | rfl <;>
  rcases (show f = 0 ∨ f = 1 ∨ f = 2 ∨ f = 3 ∨ f = 4 ∨ f = 5 ∨ f = 6 ∨ f = 7 ∨ f = 8 by omega) with rfl | rfl | rfl | rfl | rfl | rfl | rfl | rfl | rfl <;> rfl
set_option maxRecDepth 100000 in
theorem clr_de (V : Nat → Nat → Int32) (st : Int32) {k f : Nat} (hk : k < 7) (hf : f < 3) : C2_clearTo V st (18 + k) f = nI 2 := by
  rcases (show k = 0 ∨ k = 1 ∨ k = 2 ∨ k = 3 ∨ k = 4 ∨ k = 5 ∨ k = 6 by omega) with rfl | rfl | rfl | rfl | rfl | rfl | rfl <;>
  rcases (show f = 0 ∨ f = 1 ∨ f = 2 by omega) with rfl | rfl | rfl <;> rfl
theorem clr_rest (V : Nat → Nat → Int32) (st : Int32) : C2_clearTo V st 0 0 = st ∧ C2_clearTo V st 0 1 = nI 0 ∧ C2_clearTo V st 0 2 = (-5) ∧ C2_clearTo V st 0 3 = nI 0 ∧ C2_clearTo V st 0 4 = nI 0 ∧ C2_clearTo V st 1 = V 1 ∧ C2_clearTo V st 27 0 = nI 0 ∧ C2_clearTo V st 28 0 = nI 0 ∧ C2_clearTo V st 4 0 = V 4 0 ∧ C2_clearTo V st 4 1 = nI 0 ∧ C2_clearTo V st 7 0 = nI 0 ∧ C2_clearTo V st 7 1 = nI 0 := ⟨rfl, rfl, rfl, rfl, rfl, rfl, rfl, rfl, rfl, rfl, rfl, rfl⟩
theorem clr_held (V : Nat → Nat → Int32) (st : Int32) {i : Nat} (hi : i < 6) : C2_clearTo V st 2 i = (-1) := by
  rcases (show i = 0 ∨ i = 1 ∨ i = 2 ∨ i = 3 ∨ i = 4 ∨ i = 5 by omega) with rfl | rfl | rfl | rfl | rfl | rfl <;> rfl
set_option maxRecDepth 100000 in
theorem cln_lk (M : Nat → Nat → Int32) (st : Int32) {k f : Nat} (hk : k < 7) (hf : f < 9) : C8_clean M st 1 (ps (11 + k) f) = nI (if f = 6 then 1 else 0) := by
  rcases (show k = 0 ∨ k = 1 ∨ k = 2 ∨ k = 3 ∨ k = 4 ∨ k = 5 ∨ k = 6 by omega) with rfl | rfl | rfl | rfl | rfl | rfl | rfl <;>
  rcases (show f = 0 ∨ f = 1 ∨ f = 2 ∨ f = 3 ∨ f = 4 ∨ f = 5 ∨ f = 6 ∨ f = 7 ∨ f = 8 by omega) with rfl | rfl | rfl | rfl | rfl | rfl | rfl | rfl | rfl <;> rfl
set_option maxRecDepth 100000 in
theorem cln_de (M : Nat → Nat → Int32) (st : Int32) {k f : Nat} (hk : k < 7) (hf : f < 3) : C8_clean M st 1 (ps (18 + k) f) = nI 2 := by
  rcases (show k = 0 ∨ k = 1 ∨ k = 2 ∨ k = 3 ∨ k = 4 ∨ k = 5 ∨ k = 6 by omega) with rfl | rfl | rfl | rfl | rfl | rfl | rfl <;>
  rcases (show f = 0 ∨ f = 1 ∨ f = 2 by omega) with rfl | rfl | rfl <;> rfl
theorem cln_rest (M : Nat → Nat → Int32) (st : Int32) : C8_clean M st 1 3 = st ∧ C8_clean M st 1 4 = nI 0 ∧ C8_clean M st 1 8 = (-5) ∧ C8_clean M st 1 7 = nI 0 ∧ C8_clean M st 1 0 = M 1 0 ∧ C8_clean M st 1 1 = M 1 1 ∧ C8_clean M st 1 2 = M 1 2 ∧ C8_clean M st 1 11 = nI 0 ∧ C8_clean M st 1 12 = nI 0 ∧ C8_clean M st 1 5 = nI 0 ∧ C8_clean M st 1 6 = nI 0 ∧ C8_clean M st 1 9 = nI 0 ∧ C8_clean M st 1 10 = nI 0 := ⟨rfl, rfl, rfl, rfl, rfl, rfl, rfl, rfl, rfl, rfl, rfl, rfl, rfl⟩
theorem cln_held (M : Nat → Nat → Int32) (st : Int32) {i : Nat} (hi : i < 6) : C8_clean M st 1 (97 + i) = nI 0 := by
  rcases (show i = 0 ∨ i = 1 ∨ i = 2 ∨ i = 3 ∨ i = 4 ∨ i = 5 by omega) with rfl | rfl | rfl | rfl | rfl | rfl <;> rfl
theorem cln_c (M : Nat → Nat → Int32) (st : Int32) {c : Nat} (hc : c ≠ 1) : C8_clean M st c = M c := by
  unfold C8_clean
  try dsimp only
  iterate 30 refine (fr_up hc).trans ?_
  exact setC_ne hc
theorem esc_clr {V M : Nat → Nat → Int32} (st : Int32) (h : ∀ i, i < 3 → V 1 i = M 1 i) : Esc (C2_clearTo V st) (C8_clean M st 1) := by
  obtain ⟨a0, a1, a2, a3, a4, a5, a6, a7, a8, a9, aa, ab⟩ := clr_rest V st
  obtain ⟨b0, b1, b2, b3, b4, b5, b6, b7, b8, b9, ba, bb, bc⟩ := cln_rest M st
  intro c i hd
  unfold DM at hd
  rcases hd with ⟨rfl, hi⟩ | ⟨rfl, hi⟩ | ⟨rfl, hi⟩ | ⟨h1, h2, h3⟩ | ⟨h1, h2, h3⟩ | ⟨hc, rfl⟩
  · rcases hi with rfl | rfl | rfl | rfl
    · exact a0.trans b0.symm
    · exact a1.trans b1.symm
    · exact a2.trans b2.symm
    · exact a4.trans b3.symm
  · rw [a5]
    refine (h i hi).trans ?_
    rcases (show i = 0 ∨ i = 1 ∨ i = 2 by omega) with rfl | rfl | rfl
    · exact b4.symm
    · exact b5.symm
    · exact b6.symm
  · rcases (show i = 0 ∨ i = 1 by omega) with rfl | rfl
    · exact aa.trans b9.symm
    · exact ab.trans ba.symm
  · obtain ⟨k, rfl⟩ : ∃ k, c = 11 + k := ⟨c - 11, by omega⟩
    rw [clr_lk V st (by omega) h3, cln_lk M st (by omega) h3]
  · obtain ⟨k, rfl⟩ : ∃ k, c = 18 + k := ⟨c - 18, by omega⟩
    rw [clr_de V st (by omega) h3, cln_de M st (by omega) h3]
  · rcases hc with rfl | rfl
    · exact a6.trans b7.symm
    · exact a7.trans b8.symm
/-- the settings are what they may be -/
def Set2 (V : Nat → Nat → Int32) (m : Nat → Int32) : Prop := (∀ i, i < 3 → V 1 i = m i) ∧ (∃ le, le ≤ 20 ∧ V 1 0 = nI le) ∧ (∃ th, th ≤ 20 ∧ V 1 1 = nI th) ∧ (∃ h, h < 64 ∧ V 4 0 = nI h) ∧ ∃ y, y ≤ 1 ∧ V 1 2 = nI y
theorem set2_of {V M : Nat → Nat → Int32} {L : List (Nat × Nat)} {n p nS t cap : Nat} {ph : Nat → Nat} (h : Rel V (M 1) L n p) (i : Inv V L n p nS t ph cap) (o : Off V) : Set2 V (M 1) := by
  obtain ⟨hd, h1, h2, -⟩ := h.2.1.2.2.2
  exact ⟨fun j hj => R_eq h (show DM 1 j by unfold DM; omega), i.1.2.2.2.2.1, i.1.2.2.2.2.2.1, ⟨hd, h1, h2⟩, o.2⟩
theorem G_clear {V M : Nat → Nat → Int32} {nS : Nat} (h1 : 1 ≤ nS) (h6 : nS ≤ 6) (s : Set2 V (M 1)) (cap : Nat) : Rel (C2_clearTo V (nI nS)) (C8_clean M (nI nS) 1) [] 0 0 ∧ Inv (C2_clearTo V (nI nS)) [] 0 0 nS 0 (fun _ => 0) cap ∧ Off (C2_clearTo V (nI nS)) := by
  obtain ⟨s1, s2, s3, ⟨hd, s4, s5⟩, s6⟩ := s
  obtain ⟨a0, a1, a2, a3, a4, a5, a6, a7, a8, a9, aa, ab⟩ := clr_rest V (nI nS)
  obtain ⟨b0, b1, b2, b3, b4, b5, b6, b7, b8, b9, ba, bb, bc⟩ := cln_rest M (nI nS)
  have fu0 : ∀ k, k < 7 → fu (C2_clearTo V (nI nS)) k = 0 := fun k hk => by
    unfold fu
    by_cases c : 0 < k
    · rw [if_neg]
      rw [clr_held V _ (show k - 1 < 6 by omega)]
      exact fun z => z.2 rfl
    · rw [if_neg (fun z => c z.1)]
  have wt0 : wtN (C2_clearTo V (nI nS)) = 0 := by
    unfold wtN
    rw [a6, a7]; rfl
  refine ⟨⟨esc_clr _ s1, ⟨by decide, fun x hx => absurd hx List.not_mem_nil, a9, hd, s4, by rw [a8]; exact s5, fun i hi => absurd hi (Nat.not_lt_zero i)⟩, ⟨bc, fun j hj => absurd hj (Nat.not_lt_zero j)⟩, fun i hi => Or.inl ⟨clr_held V _ hi, cln_held M _ hi⟩, fun s hs => ⟨0, by decide, ?_, fun j hj => absurd hj (Nat.not_lt_zero j)⟩, ⟨by decide, by decide, aa, a3, bb, fun j hj => absurd hj (Nat.not_lt_zero j)⟩, fun r hr => absurd hr (Nat.not_lt_zero r)⟩, ⟨⟨h1, h6, a0, a1, by rw [a5]; exact s2, by rw [a5]; exact s3, fun k hk w hw => ⟨2, by decide, by decide, clr_de V _ hk hw⟩, fun k hk => ⟨0, by decide, clr_lk V _ hk (by decide)⟩⟩, fun x hx => absurd hx List.not_mem_nil, fun k hk => ⟨show 0 < 6 by decide, clr_lk V _ hk (by decide), clr_lk V _ hk (by decide), 0, rfl, trivial, trivial⟩, ⟨fun k hk => ⟨fun _ => fu0 _ (by omega), fun z => absurd (show 1 ≤ 0 from z) (by decide), fun z => absurd (show (0 : Nat) = 2 from z) (by decide)⟩, show (0 : Nat) ≠ 2 by decide, fun k _ hk => ⟨rfl, fu0 k hk⟩, fu0 0 (by decide), fun k hk => by rw [fu0 k hk]; decide⟩, rfl, by rw [wt0]; exact Nat.zero_le _⟩, ?_⟩
  · rcases (show s = 0 ∨ s = 1 by omega) with rfl | rfl
    · exact a6
    · exact a7
  · unfold Off
    rw [a3, a5]
    exact ⟨(clr_lk V (nI nS) (k := 0) (f := 8) (by decide) (by decide)).symm, s6⟩
/-- the new line -/
theorem G_new (cap : Nat) : Rel ln_N (mo_0 1) [] 0 0 ∧ Inv ln_N [] 0 0 3 0 (fun _ => 0) cap ∧ Off ln_N := by
  refine G_clear (V := ln_0) (M := up1 z_2 1 0 (nI 1)) (nS := 3) (by decide) (by decide) ⟨fun i hi => ?_, ⟨1, by decide, rfl⟩, ⟨0, by decide, rfl⟩, ⟨0, by decide, rfl⟩, 0, by decide, rfl⟩ cap
  rcases (show i = 0 ∨ i = 1 ∨ i = 2 by omega) with rfl | rfl | rfl <;> rfl
