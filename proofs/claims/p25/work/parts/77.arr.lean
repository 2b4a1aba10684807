theorem nx_ne5 {r : Nat} (h : r < 2 ^ 31) : ¬ nI r = (-1) := fun e => by
  have h1 := nI_pos h
  rw [e] at h1
  exact h1 (by decide)
/-! what arrives does, on both sides: a request, an answer; and what of the class's line it changes -/
/-- what of a line the way of the words depends on -/
abbrev VW (c i : Nat) : Prop := (11 ≤ c ∧ c < 18 ∧ 5 ≤ i ∧ i ≤ 7) ∨ c = 2 ∨ (c = 0 ∧ (i = 0 ∨ i = 1)) ∨ c = 1 ∨ (18 ≤ c ∧ c < 25) ∨ c = 27 ∨ c = 28
theorem vw_up {V : Nat → Nat → Int32} {c i c' i' : Nat} {x : Int32} (hw : VW c' i') (h : ¬ VW c i) : up1 V c i x c' i' = V c' i' := by
  rw [up1_at, if_neg]
  intro z
  apply h
  rw [← z.1, ← z.2]
  exact hw
theorem vw_ch {V U : Nat → Nat → Int32} {c i : Nat} (hw : VW c i) : chS V U c i = V c i := by
  rw [chS_ne (by unfold VW at hw; omega) (by unfold VW at hw; omega) (by unfold VW at hw; omega)]
theorem vw_ans {V : Nat → Nat → Int32} {k c i : Nat} {a b : Int32} (hk : k < 7) (hw : VW c i) : C2_makeAnswer V k a b c i = V c i := by
  show chS (up1 V (11 + k) 2 a) _ c i = _
  rw [vw_ch hw, vw_up hw (by unfold VW; omega)]
theorem vw_req {V : Nat → Nat → Int32} {k c i : Nat} {a b : Int32} (hk : k < 7) (hw : VW c i) : C2_makeRequest V k a b c i = V c i := by
  show chS (up1 V (11 + k) 0 a) _ c i = _
  rw [vw_ch hw, vw_up hw (by unfold VW; omega)]
theorem vw_offer {V : Nat → Nat → Int32} {k c i : Nat} {a : Int32} (hk : k < 7) (hw : VW c i) : C2_offer V k a c i = if c = 11 + k ∧ i = 6 then nI 0 else V c i := by
  show up1 (up1 (C2_makeRequest (chS (up1 V (11 + k) 4 a) _) k (nI 1) _) (11 + k) 6 (nI 0)) (11 + k) 8 _ c i = _
  rw [vw_up hw (by unfold VW; omega), up1_at]
  by_cases q : c = 11 + k ∧ i = 6
  · rw [if_pos q, if_pos q]
  · rw [if_neg q, if_neg q, vw_req hk hw, vw_ch hw, vw_up hw (by unfold VW; omega)]
theorem vw_take {V : Nat → Nat → Int32} {k c i : Nat} (hk : k < 6) (hw : VW c i) : C2_takeWord V k c i = if c = 11 + k ∧ i = 7 then nI 0 else if c = 2 ∧ i = k then V (11 + k) 5 else V c i := by
  show C2_makeAnswer (up1 (up1 V (11 + k) 7 (nI 0)) 2 k (up1 V (11 + k) 7 (nI 0) (11 + k) 5)) k (nI 1) (nI 0) c i = _
  rw [vw_ans (by omega) hw, up1_oi (by decide), up1_at, up1_at]
  by_cases q : c = 11 + k ∧ i = 7
  · rw [if_pos q, if_neg (by omega), if_pos q]
  · rw [if_neg q, if_neg q]
theorem vw_note {V : Nat → Nat → Int32} {c i : Nat} {w : Int32} (hw : VW c i) : C2_noteWord V w c i = V c i := by
  have e : ∀ U : Nat → Nat → Int32, ntS V U c i = V c i := fun U => by
    show setC (setC (setC (setC V 7 _) 8 _) 9 _) 10 _ c i = V c i
    rw [setC_ne (by unfold VW at hw; omega), setC_ne (by unfold VW at hw; omega), setC_ne (by unfold VW at hw; omega), setC_ne (by unfold VW at hw; omega)]
  unfold C2_noteWord
  split
  · exact e _
  · exact e _
/-- the request 0 arrives -/
theorem A_req0 {V M : Nat → Nat → Int32} {L : List (Nat × Nat)} {n p k t d : Nat} (h : Rel V (M 1) L n p) (hl : L.length < 64) (hk : k < 7) (ht : V 0 1 = nI t) (hd : V (18 + k) 1 = nI d) (hb : t + d < 2 ^ 31) :
    Rel (C2_letRequestArrive V k (nI 0)) (C8_requestArrives M k (nI 0) 1) (L ++ [(t + d, sgn_ k 1 0)]) n p ∧ ∀ c i, VW c i → C2_letRequestArrive V k (nI 0) c i = V c i := by
  have a := R_end (f := 1) (x := nI 0) h hk (by decide)
  have eV : C2_letRequestArrive V k (nI 0) = C2_makeAnswer (up1 V (11 + k) 1 (nI 0)) k (nI 0) (nI 0) := by
    unfold C2_letRequestArrive
    try dsimp only
    rw [if_pos (show nI 0 = 0 from rfl)]
  have eM : C8_requestArrives M k (nI 0) = C8_answer (C8_setEnd M k 1 (nI 0)) k (nI 0) (nI 0) := by
    unfold C8_requestArrives
    try dsimp only
    rw [if_pos (show nI 0 = 0 from rfl)]
  rw [eV, eM]
  refine ⟨R_answer (e := 0) a hl hk (by decide) (by rw [up1_ne (by omega)]; exact ht) (by rw [up1_ne (by omega)]; exact hd) (by omega), fun c i hw => ?_⟩
  rw [vw_ans hk hw, vw_up hw (by unfold VW; omega)]
/-- the request 1 arrives at the receiver -/
theorem A_note {V M : Nat → Nat → Int32} {L : List (Nat × Nat)} {n p k t d th : Nat} (h : Rel V (M 1) L n p) (hl : L.length < 64) (hk : k < 7) (hp : 0 < p) (h0 : V 0 0 = nI k) (ht : V 0 1 = nI t) (hd : V (18 + k) 1 = nI d) (hth : V 1 1 = nI th) (hb : t + d + th < 2 ^ 31) :
    Rel (C2_letRequestArrive V k (nI 1)) (C8_requestArrives M k (nI 1) 1) (L ++ [(t + d + th, sgn_ k 1 1)]) (n + 1) (p - 1) ∧ ∀ c i, VW c i → C2_letRequestArrive V k (nI 1) c i = V c i := by
  obtain ⟨V1, e1⟩ : ∃ z, z = up1 V (11 + k) 1 (nI 1) := ⟨_, rfl⟩
  obtain ⟨M1, g1⟩ : ∃ z, z = C8_setEnd M k 1 (nI 1) := ⟨_, rfl⟩
  have a : Rel V1 (M1 1) L n p := by rw [e1, g1]; exact R_end (f := 1) h hk (by decide)
  have u0 : ∀ c, c ≠ 11 + k → V1 c = V c := fun c hc => by rw [e1]; exact up1_ne hc
  have k0 : tN (V 0 0) = k := by rw [h0]; exact tN_nI (by omega)
  have k3 : tN (M 1 3) = k := by rw [show M 1 3 = V 0 0 from (R_eq h (c := 0) (i := 0) (by decide)).symm]; exact k0
  have k31 : tN (M1 1 3) = k := by
    have := R_eq a (c := 0) (i := 0) (by decide)
    rw [u0 0 (by omega)] at this
    show tN (M1 1 (ps 0 0)) = k
    rw [← this]; exact k0
  have ew : C8_end M1 k 5 = V1 (11 + k) 5 := by
    show M1 1 ((34 + (6 * k)) + 5) = _
    rw [← (ps_lk hk (show 5 < 6 by decide)).1, ← R_eq a (ps_lk hk (by decide)).2]
  have n7 : tN (V1 7 0) = n := by rw [a.2.2.2.2.2.1.2.2.1]; exact tN_nI (by have := a.2.2.2.2.2.1.2.1; omega)
  have e3 : V1 3 (n % 8) = M1 1 149 := by
    have := a.2.2.2.2.2.1.2.2.2.2.2 0 hp
    rw [Nat.add_zero, Nat.add_zero] at this
    exact this
  have main : ∀ r, Rel (C2_makeAnswer (ntS V1 (C4_append (ntU V1) (V1 (11 + k) 5) (V1 0 1) r)) k (nI 1) (ntS V1 (C4_append (ntU V1) (V1 (11 + k) 5) (V1 0 1) r) 1 1)) (C8_answer (nteW M1 (V1 (11 + k) 5) r) k (nI 1) (nteW M1 (V1 (11 + k) 5) r 1 1) 1) (L ++ [(t + d + th, sgn_ k 1 1)]) (n + 1) (p - 1) := by
    intro r
    have b := R_note (w := V1 (11 + k) 5) (r := r) a hp
    have fr : ∀ c, c ≠ 7 → c ≠ 8 → c ≠ 9 → c ≠ 10 → c ≠ 11 + k → ntS V1 (C4_append (ntU V1) (V1 (11 + k) 5) (V1 0 1) r) c = V c := fun c x1 x2 x3 x4 x5 => by
      show setC (setC (setC (setC V1 7 _) 8 _) 9 _) 10 _ c = V c
      rw [setC_ne x4, setC_ne x3, setC_ne x2, setC_ne x1]; exact u0 c x5
    have t11 : ntS V1 (C4_append (ntU V1) (V1 (11 + k) 5) (V1 0 1) r) 1 1 = nI th := by rw [fr 1 (by decide) (by decide) (by decide) (by decide) (by omega)]; exact hth
    have m11 : nteW M1 (V1 (11 + k) 5) r 1 1 = nI th := by
      have := R_eq b (c := 1) (i := 1) (by decide)
      rw [t11] at this
      exact this.symm
    rw [t11, m11]
    exact R_answer b hl hk (by decide) (by rw [fr 0 (by decide) (by decide) (by decide) (by decide) (by omega)]; exact ht) (by rw [fr (18 + k) (by omega) (by omega) (by omega) (by omega) (by omega)]; exact hd) hb
  have eM : C8_requestArrives M k (nI 1) = C8_note M1 := by
    unfold C8_requestArrives
    try dsimp only
    rw [if_neg (show ¬ nI 1 = 0 by decide), if_pos k3.symm, g1]
  have eV : C2_letRequestArrive V k (nI 1) = C2_makeAnswer (C2_noteWord V1 (V1 (11 + k) 5)) k (nI 1) (C2_noteWord V1 (V1 (11 + k) 5) 1 1) := by
    unfold C2_letRequestArrive
    try dsimp only
    rw [if_neg (show ¬ nI 1 = 0 by decide), if_pos k0.symm, e1]
  rw [eM, note_eq, k31, ew]
  constructor
  · rw [eV]
    unfold C2_noteWord
    rw [n7, e3]
    by_cases c : V1 (11 + k) 5 = M1 1 149
    · rw [if_pos c, if_pos c]; exact main (nI 1)
    · rw [if_neg c, if_neg c]; exact main (nI 0)
  · intro c i hw
    rw [eV, vw_ans hk hw, vw_note hw, e1, vw_up hw (by unfold VW; omega)]
/-- the request 1 arrives at a stage that is full -/
theorem A_wait {V M : Nat → Nat → Int32} {L : List (Nat × Nat)} {n p k nS : Nat} (h : Rel V (M 1) L n p) (hk : k < nS) (hn : nS < 7) (h0 : V 0 0 = nI nS) (hf : V 2 k ≠ (-1)) :
    Rel (C2_letRequestArrive V k (nI 1)) (C8_requestArrives M k (nI 1) 1) L n p ∧ ∀ c i, VW c i → C2_letRequestArrive V k (nI 1) c i = if c = 11 + k ∧ i = 7 then nI 1 else V c i := by
  have a := R_end (f := 1) (x := nI 1) h (show k < 7 by omega) (by decide)
  have b := R_wait (x := nI 1) a (show k < 7 by omega)
  have k0 : tN (V 0 0) = nS := by rw [h0]; exact tN_nI (by omega)
  have k3 : tN (M 1 3) = nS := by rw [show M 1 3 = V 0 0 from (R_eq h (c := 0) (i := 0) (by decide)).symm]; exact k0
  have hm : C8_setEnd M k 1 (nI 1) 1 (97 + k) = nI 1 := by
    show up1 M 1 ((34 + (6 * k)) + 1) (nI 1) 1 (97 + k) = _
    rw [up1_oi (by omega)]
    rcases h.2.2.2.1 k (by omega) with q | ⟨w, -, -, q, -⟩
    · exact absurd q.1 hf
    · exact q
  have eV : C2_letRequestArrive V k (nI 1) = up1 (up1 V (11 + k) 1 (nI 1)) (11 + k) 7 (nI 1) := by
    unfold C2_letRequestArrive
    try dsimp only
    rw [if_neg (show ¬ nI 1 = 0 by decide), if_neg (by omega), if_neg (by rw [up1_ne (by omega)]; exact hf)]
  have eM : C8_requestArrives M k (nI 1) = up1 (C8_setEnd M k 1 (nI 1)) 1 (83 + k) (nI 1) := by
    unfold C8_requestArrives
    try dsimp only
    rw [if_neg (show ¬ nI 1 = 0 by decide), if_neg (by omega), if_neg (by rw [hm]; decide)]
  rw [eV, eM]
  refine ⟨b, fun c i hw => ?_⟩
  rw [up1_at]
  by_cases q : c = 11 + k ∧ i = 7
  · rw [if_pos q, if_pos q]
  · rw [if_neg q, if_neg q, vw_up hw (by unfold VW; omega)]
/-- the request 1 arrives at a stage that is empty: it takes, and offers its word if it can -/
theorem A_take {V M : Nat → Nat → Int32} {L : List (Nat × Nat)} {n p k nS w t d dd dr le : Nat} (h : Rel V (M 1) L n p) (hl : L.length + 3 ≤ 64) (hk : k < nS) (hn : nS < 7) (hw : w < 32) (h0 : V 0 0 = nI nS) (hf : V 2 k = (-1)) (hwt : V (11 + k) 7 = nI 0) (hda : V (11 + k) 5 = nI w) (ht : V 0 1 = nI t) (hd : V (18 + k) 1 = nI d) (hdd : V (18 + (k + 1)) 2 = nI dd) (hdr : V (18 + (k + 1)) 0 = nI dr) (hle : V 1 0 = nI le) (hb : t + d + dd + dr + le < 2 ^ 31) (hr : V (11 + (k + 1)) 6 = nI 0 ∨ V (11 + (k + 1)) 6 = nI 1) :
    (V (11 + (k + 1)) 6 = nI 0 → Rel (C2_letRequestArrive V k (nI 1)) (C8_requestArrives M k (nI 1) 1) (L ++ [(t + d, sgn_ k 1 1)]) n p ∧ ∀ c i, VW c i → C2_letRequestArrive V k (nI 1) c i = if c = 2 ∧ i = k then nI w else V c i) ∧
    (V (11 + (k + 1)) 6 = nI 1 → Rel (C2_letRequestArrive V k (nI 1)) (C8_requestArrives M k (nI 1) 1) (((L ++ [(t + d, sgn_ k 1 1)]) ++ [(t + dd, sgn_ (k + 1) 2 w)]) ++ [(t + dr + le, sgn_ (k + 1) 0 1)]) n p ∧ ∀ c i, VW c i → C2_letRequestArrive V k (nI 1) c i = if c = 11 + (k + 1) ∧ i = 6 then nI 0 else if c = 2 ∧ i = k then nI w else V c i) := by
  obtain ⟨V1, e1⟩ : ∃ z, z = up1 V (11 + k) 1 (nI 1) := ⟨_, rfl⟩
  obtain ⟨M1, g1⟩ : ∃ z, z = C8_setEnd M k 1 (nI 1) := ⟨_, rfl⟩
  have a : Rel V1 (M1 1) L n p := by rw [e1, g1]; exact R_end (f := 1) h (by omega) (by decide)
  have u : ∀ c i, VW c i → V1 c i = V c i := fun c i hw => by rw [e1]; exact vw_up hw (by unfold VW; omega)
  have k0 : tN (V 0 0) = nS := by rw [h0]; exact tN_nI (by omega)
  have k3 : tN (M 1 3) = nS := by rw [show M 1 3 = V 0 0 from (R_eq h (c := 0) (i := 0) (by decide)).symm]; exact k0
  have hm : M1 1 (97 + k) = nI 0 := by
    rw [g1]
    show up1 M 1 ((34 + (6 * k)) + 1) (nI 1) 1 (97 + k) = _
    rw [up1_oi (by omega)]
    rcases h.2.2.2.1 k (by omega) with q | ⟨w, hw, q, -, -⟩
    · exact q.2
    · exact absurd (q.symm.trans hf) (nx_ne5 (by omega))
  obtain ⟨M2, g2⟩ : ∃ z, z = C8_answer (up1 (up1 M1 1 (97 + k) (nI 1)) 1 (103 + k) (C8_end (up1 M1 1 (97 + k) (nI 1)) k 5)) k (nI 1) (nI 0) := ⟨_, rfl⟩
  have b : Rel (C2_takeWord V1 k) (M2 1) (L ++ [(t + d, sgn_ k 1 1)]) n p := by
    rw [g2]
    exact R_take a (by omega) (by omega) hw (by rw [u _ _ (by unfold VW; omega)]; exact hwt) (by rw [u _ _ (by unfold VW; omega)]; exact hda) (by rw [u _ _ (by unfold VW; omega)]; exact ht) (by rw [u _ _ (by unfold VW; omega)]; exact hd) (by omega)
  have vt : ∀ c i, VW c i → C2_takeWord V1 k c i = if c = 2 ∧ i = k then nI w else V c i := fun c i hv => by
    rw [vw_take (by omega) hv, u _ _ (show VW (11 + k) 5 by unfold VW; omega), hda]
    by_cases q : c = 11 + k ∧ i = 7
    · rw [if_pos q, if_neg (by omega), q.1, q.2, hwt]
    · rw [if_neg q, u c i hv]
  have eV : C2_letRequestArrive V k (nI 1) = if (C2_takeWord V1 k (11 + (k + 1)) 6) = 0 then C2_takeWord V1 k else C2_offer (C2_takeWord V1 k) (k + 1) (C2_takeWord V1 k 2 k) := by
    unfold C2_letRequestArrive
    try dsimp only
    rw [if_neg (show ¬ nI 1 = 0 by decide), if_neg (by omega), if_pos (by rw [up1_ne (by omega)]; exact hf), e1]
  have eM : C8_requestArrives M k (nI 1) = if (M2 1 ((76 + k) + 1)) = (nI 1) then C8_offer M2 (k + 1) (M2 1 (103 + k)) else M2 := by
    unfold C8_requestArrives
    try dsimp only
    rw [if_neg (show ¬ nI 1 = 0 by decide), if_neg (by omega), ← g1, if_pos (by rw [hm]; rfl)]
    unfold C8_take
    rw [g2]
  have r6 : C2_takeWord V1 k (11 + (k + 1)) 6 = V (11 + (k + 1)) 6 := by rw [vt _ _ (by unfold VW; omega), if_neg (by omega)]
  have m6 : M2 1 ((76 + k) + 1) = V (11 + (k + 1)) 6 := by
    have := R_eq b (ps_rest (show k + 1 < 7 by omega)).2
    rw [(ps_rest (show k + 1 < 7 by omega)).1, r6] at this
    exact this.symm
  have v2 : C2_takeWord V1 k 2 k = nI w := by rw [vt _ _ (by unfold VW; omega), if_pos ⟨rfl, rfl⟩]
  have m3 : M2 1 (103 + k) = nI w := by
    rcases b.2.2.2.1 k (by omega) with q | ⟨w2, hw2, q1, -, q2⟩
    · exact absurd (v2.symm.trans q.1) (nx_ne5 (by omega))
    · rw [q2, ← q1, v2]
  rw [eV, eM, r6, m6, v2, m3]
  constructor
  · intro q
    rw [q, if_pos (show nI 0 = 0 from rfl), if_neg (show ¬ nI 0 = nI 1 by decide)]
    exact ⟨b, vt⟩
  · intro q
    rw [q, if_neg (show ¬ nI 1 = 0 by decide), if_pos rfl]
    have tt : ∀ c i, VW c i → c ≠ 2 → C2_takeWord V1 k c i = V c i := fun c i hv hc => by rw [vt c i hv, if_neg (fun z => hc z.1)]
    refine ⟨R_offer b (by simp; omega) (by omega) hw (by rw [tt _ _ (by unfold VW; omega) (by decide)]; exact ht) (by rw [tt _ _ (by unfold VW; omega) (by omega)]; exact hdd) (by rw [tt _ _ (by unfold VW; omega) (by omega)]; exact hdr) (by rw [tt _ _ (by unfold VW; omega) (by decide)]; exact hle) (by omega), fun c i hv => ?_⟩
    rw [vw_offer (by omega) hv, vt c i hv]
