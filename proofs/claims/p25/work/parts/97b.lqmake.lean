/-! the law's steps beside the same steps on the numbers: a change is made, a word offered, a stage takes -/
theorem m8_10 {M : Nat → Nat → Int32} {k w : Nat} {v x : Int32} (g : vp_in (M 1 10) 1000) : (C8_make M k w v x 1 10 = M 1 10 + nI 1) ∧ (∀ j, j ≠ 10 → j < 319 → C8_make M k w v x 1 j = M 1 j) ∧ (∀ j, j ≠ 10 → (j < 319 + 4 * tN (M 1 10) ∨ 319 + 4 * tN (M 1 10) + 4 ≤ j) → C8_make M k w v x 1 j = M 1 j) ∧ C8_make M k w v x 1 ((319 + (4 * (tN (M 1 10)))) + 0) = ((M 1 4) + (M 1 ((13 + (3 * k)) + w))) + x ∧ C8_make M k w v x 1 ((319 + (4 * (tN (M 1 10)))) + 1) = nI k ∧ C8_make M k w v x 1 ((319 + (4 * (tN (M 1 10)))) + 2) = nI w ∧ C8_make M k w v x 1 ((319 + (4 * (tN (M 1 10)))) + 3) = v := by
  unfold C8_make
  try dsimp only
  refine ⟨?_, ?_, ?_, ?_, ?_, ?_, ?_⟩
  · rw [up1_eq, up1_in (by omega), up1_in (by omega), up1_in (by omega), up1_in (by omega)]
  · intro j h1 h2
    rw [up1_in h1, up1_in (by omega), up1_in (by omega), up1_in (by omega), up1_in (by omega)]
  · intro j h1 h2
    rw [up1_in h1, up1_in (by omega), up1_in (by omega), up1_in (by omega), up1_in (by omega)]
  · rw [up1_in (by omega), up1_in (by omega), up1_in (by omega), up1_in (by omega), up1_eq]
  · rw [up1_in (by omega), up1_in (by omega), up1_in (by omega), up1_eq]
  · rw [up1_in (by omega), up1_in (by omega), up1_eq]
  · rw [up1_in (by omega), up1_eq]
theorem mk_67 {G : Nat → Nat → Int32} {k w : Nat} {v x : Int32} : CL_makes G k w v x 6 = upd (G 6) (tN (G 0 10)) (((G 0 4) + (G 1 ((3 * k) + w))) + x) ∧ CL_makes G k w v x 7 = upd (G 7) (tN (G 0 10)) ((nI ((96 * k) + (32 * w))) + v) := by
  unfold CL_makes
  try dsimp only
  refine ⟨?_, ?_⟩
  · show setC _ 0 _ 6 = _
    rw [setC_ne (by decide)]
    show setC _ 7 _ 6 = _
    rw [setC_ne (by decide)]
    show setC _ 6 _ 6 = _
    rw [setC_eq]
  · show setC _ 0 _ 7 = _
    rw [setC_ne (by decide)]
    show setC _ 7 _ 7 = _
    rw [setC_eq]
    have e1 : up1 G 6 (tN (G 0 10)) (((G 0 4) + (G 1 ((3 * k) + w))) + x) 7 = G 7 := setC_ne (by decide)
    rw [e1]
    rfl
theorem vpN {x : Int32} {n m : Nat} (h : vp_in x n) (hm : n ≤ m) : vp_in x m := vp_mono h hm
theorem LQ_make {G M : Nat → Nat → Int32} {k w v : Nat} {x : Int32} (h : LQ G (M 1)) (b : vp_in (M 1 10) 64) (b9 : tN (M 1 9) ≤ 20) (b1 : tN (M 1 11) ≤ 20) (b2 : tN (M 1 12) ≤ 20) (hk : k < 7) (hw : w < 3) (hv : v < 32) : LQ (CL_makes G k w (nI v) x) (C8_make M k w (nI v) x 1) := by
  obtain ⟨h1, h2, h3, h4, h5, h6⟩ := h
  have hl := inL b
  obtain ⟨e10, eL, eR, e0, e1, e2, e3⟩ := m8_10 (M := M) (k := k) (w := w) (v := nI v) (x := x) (vp_mono b (by decide))
  obtain ⟨c6, c7⟩ := mk_67 (G := G) (k := k) (w := w) (v := nI v) (x := x)
  have q10 : G 0 10 = M 1 10 := h1 0 10 (by decide)
  have q4 : G 0 4 = M 1 4 := h1 0 4 (by decide)
  have qd : G 1 ((3 * k) + w) = M 1 ((13 + (3 * k)) + w) := LQ_d (m := M 1) ⟨h1, h2, h3, h4, h5, h6⟩ hk hw
  have gc : ∀ c, c ≠ 0 → c ≠ 6 → c ≠ 7 → CL_makes G k w (nI v) x c = G c := fun c n0 n6 n7 => funext fun i => mk_ne n6 n7 (fun z => n0 z.1)
  have t10 : tN (M 1 10 + nI 1) = tN (M 1 10) + 1 := by
    have e := inN b
    rw [e, nI_add, tN_nI (by omega), tN_nI (by omega)]
  refine ⟨?_, ?_, ?_, ?_, ?_, ?_⟩
  · intro c i hd
    by_cases z : c = 0 ∧ i = 10
    · obtain ⟨rfl, rfl⟩ := z
      rw [mk_10, show pl 0 10 = 10 from rfl, e10, q10]
    · have hp := lp_pl hd
      rw [mk_ne (by unfold DL at hd; omega) (by unfold DL at hd; omega) z, eL _ (fun e => z (pl_inj hd (show DL 0 10 by decide) e)) (by omega)]
      exact h1 c i hd
  · exact LHd_of h2 (fun i _ => by rw [gc 3 (by decide) (by decide) (by decide)]) (fun j a c => eL j (by omega) (by omega))
  · exact LRw_of h3 (gc 4 (by decide) (by decide) (by decide)) (eL 11 (by decide) (by decide)) (eL 12 (by decide) (by decide)) (fun j a c => eL j (by omega) (by omega)) b1 b2
  · exact LPn_of h4 (gc 5 (by decide) (by decide) (by decide)) (eL 9 (by decide) (by decide)) (fun j a c => eL j (by omega) (by omega)) b9
  · intro j hj
    rw [e10, t10] at hj
    rw [c6, c7, q10]
    by_cases c : j = tN (M 1 10)
    · subst c
      refine ⟨?_, k, w, v, hk, hw, hv, e1, e2, e3, ?_⟩
      · rw [e0, ← q4, ← qd]
        exact if_pos rfl
      · rw [show nI ((k * 3 + w) * 32 + v) = nI ((96 * k) + (32 * w)) + nI v by rw [nI_add]; congr 1; omega]
        exact if_pos rfl
    · have hj2 : j < tN (M 1 10) := by omega
      have n6 : ∀ (f : Nat → Int32) (y : Int32), upd f (tN (M 1 10)) y j = f j := fun f y => if_neg c
      rw [n6, n6, eR _ (by omega) (by omega), eR _ (by omega) (by omega), eR _ (by omega) (by omega), eR _ (by omega) (by omega)]
      exact h5 j hj2
  · exact LNt_of h6 (gc 8 (by decide) (by decide) (by decide)) (eL 5 (by decide) (by decide)) (fun j a c => eL j (by omega) (by omega))
/-- the ranges, with the number of changes by itself -/
def Rn (m : Nat → Int32) (n : Nat) : Prop := vp_in (m 10) n ∧ vp_in (m 3) 7 ∧ tN (m 9) ≤ 20 ∧ tN (m 11) ≤ 20 ∧ tN (m 12) ≤ 20
theorem Rn_of {m m' : Nat → Int32} {n : Nat} (h : Rn m n) (e : ∀ j, j = 3 ∨ j = 9 ∨ j = 10 ∨ j = 11 ∨ j = 12 → m' j = m j) : Rn m' n := by
  unfold Rn
  rw [e 10 (by omega), e 3 (by omega), e 9 (by omega), e 11 (by omega), e 12 (by omega)]
  exact h
theorem Rn_make {M : Nat → Nat → Int32} {k w n : Nat} {v x : Int32} (h : Rn (M 1) n) (hn : n ≤ 999) : Rn (C8_make M k w v x 1) (n + 1) := by
  obtain ⟨e10, eL, -⟩ := m8_10 (M := M) (k := k) (w := w) (v := v) (x := x) (vp_mono h.1 (by omega))
  unfold Rn
  rw [e10, eL 3 (by decide) (by decide), eL 9 (by decide) (by decide), eL 11 (by decide) (by decide), eL 12 (by decide) (by decide)]
  exact ⟨vp_suc h.1 (by omega), h.2⟩
/-- a single number, with the ranges so -/
theorem LR_up {G M : Nat → Nat → Int32} {c i j : Nat} {x : Int32} (h : LQ G (M 1)) (hd : DL c i) (hp : pl c i = j) (hc : c = 0 → i ≠ 5 ∧ i ≠ 9 ∧ i ≠ 10 ∧ i ≠ 11 ∧ i ≠ 12) (b9 : tN (M 1 9) ≤ 20) (b1 : tN (M 1 11) ≤ 20) (b2 : tN (M 1 12) ≤ 20) : LQ (up1 G c i x) (up1 M 1 j x 1) := by
  obtain ⟨h1, h2, h3, h4, h5, h6⟩ := h
  subst hp
  have hr := (lp_pl hd).2
  have hn : ∀ j, DL 0 j → ¬ (c = 0 ∧ i = j) → pl c i ≠ j := fun j hj z e => z (by
    have := pl_inj hd hj (by rw [e]; rfl)
    exact this)
  have hm : ∀ j, j ≠ pl c i → upd (M 1) (pl c i) x j = M 1 j := fun j e => if_neg e
  have hg : ∀ c' i', ¬ (c' = c ∧ i' = i) → up1 G c i x c' i' = G c' i' := fun c' i' z => by rw [up1_at, if_neg z]
  have hgc : ∀ c', c' ≠ c → up1 G c i x c' = G c' := fun c' z => setC_ne z
  rw [upM]
  have k9 := hn 9 (by decide) (fun z => (hc z.1).2.1 z.2)
  have k10 := hn 10 (by decide) (fun z => (hc z.1).2.2.1 z.2)
  have k11 := hn 11 (by decide) (fun z => (hc z.1).2.2.2.1 z.2)
  have k12 := hn 12 (by decide) (fun z => (hc z.1).2.2.2.2 z.2)
  have k5 := hn 5 (by decide) (fun z => (hc z.1).1 z.2)
  have c3 : c < 4 := (DL_lt hd).1
  refine ⟨EL_up h1 hd, LHd_of h2 (fun k hk => hg _ _ (fun z => by unfold DL at hd; omega)) (fun j a b => hm j (by omega)), LRw_of h3 (hgc 4 (by omega)) (hm 11 (Ne.symm k11)) (hm 12 (Ne.symm k12)) (fun j a b => hm j (by omega)) b1 b2, LPn_of h4 (hgc 5 (by omega)) (hm 9 (Ne.symm k9)) (fun j a b => hm j (by omega)) b9, LCh_of h5 (hgc 6 (by omega)) (hgc 7 (by omega)) (hm 10 (Ne.symm k10)) (fun j a => hm j (by omega)), LNt_of h6 (hgc 8 (by omega)) (hm 5 (Ne.symm k5)) (fun j a b => hm j (by omega))⟩
/-- both at once: the binding and the ranges -/
def lqLS (G M : Nat → Nat → Int32) (n : Nat) : Prop := LQ G (M 1) ∧ Rn (M 1) n
theorem S_up {G M : Nat → Nat → Int32} {c i j n : Nat} {x : Int32} (h : lqLS G M n) (hd : DL c i) (hp : pl c i = j) (hc : c = 0 → i ≠ 3 ∧ i ≠ 5 ∧ i ≠ 9 ∧ i ≠ 10 ∧ i ≠ 11 ∧ i ≠ 12) : lqLS (up1 G c i x) (up1 M 1 j x) n := by
  have hn : ∀ k, DL 0 k → ¬ (c = 0 ∧ i = k) → j ≠ k := fun k hk z e => z (by
    have := pl_inj hd hk (by rw [hp, e]; rfl)
    exact this)
  refine ⟨LR_up h.1 hd hp (fun z => by have := hc z; omega) h.2.2.2.1 h.2.2.2.2.1 h.2.2.2.2.2, Rn_of h.2 (fun k hk => up1_in (fun e => ?_))⟩
  have q : DL 0 k := by unfold DL; omega
  exact hn k q (fun z => by have := hc z.1; omega) e.symm
theorem S_end {G M : Nat → Nat → Int32} {k f p n : Nat} {x : Int32} (h : lqLS G M n) (hk : k < 7) (hf : f < 6) (hp : pe6 f = p) : lqLS (up1 G 2 ((6 * k) + f) x) (C8_setEnd M k p x) n := by
  subst hp
  exact S_up h (pl_e hk hf).1 (pl_e hk hf).2 (fun z => absurd z (by decide))
theorem S_end0 {G M : Nat → Nat → Int32} {k n : Nat} {x : Int32} (h : lqLS G M n) (hk : k < 7) : lqLS (up1 G 2 (6 * k) x) (C8_setEnd M k 0 x) n := S_end (f := 0) h hk (by decide) rfl
theorem S_make {G M : Nat → Nat → Int32} {k w v n : Nat} {x : Int32} (h : lqLS G M n) (hn : n ≤ 64) (hk : k < 7) (hw : w < 3) (hv : v < 32) : lqLS (CL_makes G k w (nI v) x) (C8_make M k w (nI v) x) (n + 1) :=
  ⟨LQ_make h.1 (vp_mono h.2.1 hn) h.2.2.2.1 h.2.2.2.2.1 h.2.2.2.2.2 hk hw hv, Rn_make h.2 (by omega)⟩
theorem S_offer {G M : Nat → Nat → Int32} {k v n : Nat} (h : lqLS G M n) (hn : n ≤ 63) (hk : k < 7) (hv : v < 32) : lqLS (CL_offers G k (nI v)) (C8_offer M k (nI v)) (n + 2) := by
  have a := S_end (f := 2) (x := nI v) h hk (by decide) (show pe6 2 = 4 from rfl)
  have b := S_make (w := 2) (v := v) (x := nI 0) a (by omega) hk (by decide) hv
  have c := S_end0 (x := nI 1) b hk
  have q : (up1 (CL_makes (up1 G 2 ((6 * k) + 2) (nI v)) k 2 (nI v) (nI 0)) 2 (6 * k) (nI 1)) 0 0 = C8_setEnd (C8_make (C8_setEnd M k 4 (nI v)) k 2 (nI v) (nI 0)) k 0 (nI 1) 1 0 := LQ_q c.1 (by decide)
  have d := S_make (w := 0) (v := 1) (x := C8_setEnd (C8_make (C8_setEnd M k 4 (nI v)) k 2 (nI v) (nI 0)) k 0 (nI 1) 1 0) c (by omega) hk (by decide) (by decide)
  have e := S_up (x := nI 0) d (pl_f0 hk).1 (pl_f0 hk).2 (fun z => absurd z (by decide))
  have q2 := e.1.1 3 ((3 * k) + 2) (pl_f2 hk).1
  rw [(pl_f2 hk).2] at q2
  have f := S_up (x := up1 (C8_make (C8_setEnd (C8_make (C8_setEnd M k 4 (nI v)) k 2 (nI v) (nI 0)) k 0 (nI 1)) k 0 (nI 1) (C8_setEnd (C8_make (C8_setEnd M k 4 (nI v)) k 2 (nI v) (nI 0)) k 0 (nI 1) 1 0)) 1 (76 + k) (nI 0) 1 (90 + k) + nI 1) e (pl_f2 hk).1 (pl_f2 hk).2 (fun z => absurd z (by decide))
  unfold CL_offers C8_offer
  try dsimp only
  rw [q, q2]
  exact f
