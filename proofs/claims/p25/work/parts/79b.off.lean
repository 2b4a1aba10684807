/-! the count of what was offered on link 0 is kept twice -/
theorem nI_nem1 {a : Nat} (h : a < 2 ^ 31) : ¬ nI a = (-1) := fun e => by
  have q := nI_pos h
  rw [e] at q
  exact q (by decide)
def Off (V : Nat → Nat → Int32) : Prop := V 0 3 = V 11 8 ∧ ∃ y, y ≤ 1 ∧ V 1 2 = nI y
def Sm (V W : Nat → Nat → Int32) : Prop := V 0 3 = W 0 3 ∧ V 11 8 = W 11 8 ∧ V 1 2 = W 1 2
theorem sm_r (V : Nat → Nat → Int32) : Sm V V := ⟨rfl, rfl, rfl⟩
theorem sm_up {V W : Nat → Nat → Int32} {c i : Nat} {x : Int32} (h : Sm V W) (n1 : ¬ (c = 0 ∧ i = 3)) (n2 : ¬ (c = 11 ∧ i = 8)) (n3 : ¬ (c = 1 ∧ i = 2) := by omega) : Sm (up1 V c i x) W := by
  unfold Sm
  rw [up1_at, up1_at, up1_at, if_neg (fun z => n1 ⟨z.1.symm, z.2.symm⟩), if_neg (fun z => n2 ⟨z.1.symm, z.2.symm⟩), if_neg (fun z => n3 ⟨z.1.symm, z.2.symm⟩)]
  exact h
theorem sm_set {V W : Nat → Nat → Int32} {c : Nat} {g : Nat → Int32} (h : Sm V W) (n1 : c ≠ 0) (n2 : c ≠ 11) (n3 : c ≠ 1 := by omega) : Sm (setC V c g) W := by
  unfold Sm
  rw [setC_ne (Ne.symm n1), setC_ne (Ne.symm n2), setC_ne (Ne.symm n3)]
  exact h
theorem sm_off {V W : Nat → Nat → Int32} (h : Sm V W) (o : Off W) : Off V := by
  obtain ⟨a, y, y1, y2⟩ := o
  exact ⟨h.1.trans (a.trans h.2.1.symm), y, y1, h.2.2.trans y2⟩
theorem sm_ch {V W U : Nat → Nat → Int32} (h : Sm V W) : Sm (chS V U) W := sm_set (sm_set (sm_set h (by decide) (by decide)) (by decide) (by decide)) (by decide) (by decide)
theorem sm_nt {V W U : Nat → Nat → Int32} (h : Sm V W) : Sm (ntS V U) W := sm_set (sm_set (sm_set (sm_set h (by decide) (by decide)) (by decide) (by decide)) (by decide) (by decide)) (by decide) (by decide)
theorem sm_rw {V W U : Nat → Nat → Int32} {k : Nat} (h : Sm V W) : Sm (rwS V k U) W := sm_set (sm_set h (by omega) (by omega)) (by omega) (by omega)
theorem sm_req {V W : Nat → Nat → Int32} {k : Nat} {v e : Int32} (h : Sm V W) : Sm (C2_makeRequest V k v e) W := by
  unfold C2_makeRequest
  exact sm_ch (sm_up h (by omega) (by omega))
theorem sm_ans {V W : Nat → Nat → Int32} {k : Nat} {v e : Int32} (h : Sm V W) : Sm (C2_makeAnswer V k v e) W := by
  unfold C2_makeAnswer
  exact sm_ch (sm_up h (by omega) (by omega))
theorem sm_take {V W : Nat → Nat → Int32} {k : Nat} (h : Sm V W) : Sm (C2_takeWord V k) W := by
  unfold C2_takeWord
  exact sm_ans (sm_up (sm_up h (by omega) (by omega)) (by omega) (by omega))
theorem sm_note {V W : Nat → Nat → Int32} {w : Int32} (h : Sm V W) : Sm (C2_noteWord V w) W := by
  unfold C2_noteWord
  split
  · exact sm_nt h
  · exact sm_nt h
theorem sm_offer {V W : Nat → Nat → Int32} {k : Nat} {w : Int32} (hk : k ≠ 0) (h : Sm V W) : Sm (C2_offer V k w) W := by
  unfold C2_offer
  exact sm_up (sm_up (sm_req (sm_ch (sm_up h (by omega) (by omega)))) (by omega) (by omega)) (by omega) (by omega)
theorem sm_offer0 {V : Nat → Nat → Int32} {w : Int32} : (C2_offer V 0 w) 0 3 = V 0 3 ∧ (C2_offer V 0 w) 11 8 = V 11 8 + nI 1 ∧ (C2_offer V 0 w) 1 2 = V 1 2 := by
  have h : ∀ x, Sm (up1 (C2_makeRequest (chS (up1 V (11 + 0) 4 w) x) 0 (nI 1) ((chS (up1 V (11 + 0) 4 w) x) 1 0)) (11 + 0) 6 (nI 0)) V := fun x => sm_up (sm_req (sm_ch (sm_up (sm_r V) (by decide) (by decide)))) (by decide) (by decide)
  unfold C2_offer
  try dsimp only
  refine ⟨?_, ?_, ?_⟩
  · rw [up1_at, if_neg (by decide)]
    exact (h _).1
  · rw [up1_at, if_pos (by decide)]
    exact congrArg (· + nI 1) (h _).2.1
  · rw [up1_at, if_neg (by decide)]
    exact (h _).2.2
theorem ch_sd (V : Nat → Nat → Int32) : tN (C2_chosenSender V) < 2 := (cs_tN V).2
def RwG (V : Nat → Nat → Int32) : Prop := ∀ s, s < 2 → (C5_removeFirst (rwU V s)).1 = (-1) ∨ ∃ w, w < 16 ∧ (C5_removeFirst (rwU V s)).1 = nI w
theorem rwg_of {V : Nat → Nat → Int32} {m : Nat → Int32} (h : Rws V m) : RwG V := fun s hs => by
  obtain ⟨n, n1, n2, n3⟩ := h s hs
  have e : rwU V s 0 0 = nI n := n2
  unfold C5_removeFirst
  try dsimp only
  rw [e, tN_nI (show n < 2 ^ 31 by omega)]
  by_cases c : 0 < n
  · rw [if_pos c]
    obtain ⟨w, w1, w2, -⟩ := n3 0 c
    exact Or.inr ⟨w, w1, w2⟩
  · rw [if_neg c]
    exact Or.inl rfl
theorem rwg_to {V W : Nat → Nat → Int32} (h : RwG V) (e : ∀ c, 25 ≤ c → W c = V c) : RwG W := fun s hs => by
  have q : rwU W s = rwU V s := by
    funext c
    cases c with
    | zero => exact e (27 + s) (by omega)
    | succ c => exact e (25 + s) (by omega)
  rw [q]
  exact h s hs
theorem go_v1 {X : Nat → Nat → Int32} {x : Int32} : up1 X 0 3 x 0 3 = x := by rw [up1_at, if_pos ⟨rfl, rfl⟩]
theorem go_v2 {X : Nat → Nat → Int32} {a b x : Int32} {j : Nat} : up1 (up1 (up1 X 0 2 a) 3 j b) 0 3 x 11 8 = X 11 8 := by
  rw [up1_at, if_neg (by decide), up1_at, if_neg (by omega), up1_at, if_neg (by decide)]
theorem go_v4 {X : Nat → Nat → Int32} {a b x : Int32} {j : Nat} : up1 (up1 (up1 X 0 2 a) 3 j b) 0 3 x 1 2 = X 1 2 := by
  rw [up1_at, if_neg (by decide), up1_at, if_neg (by omega), up1_at, if_neg (by decide)]
theorem go_v3 {X : Nat → Nat → Int32} {a b : Int32} {j : Nat} : up1 (up1 X 0 2 a) 3 j b 0 3 = X 0 3 := by
  rw [up1_at, if_neg (by omega), up1_at, if_neg (by decide)]
theorem pr_or {x : Int32} {W V : Nat → Nat → Int32} (h1 : ¬ x = (-1)) (h2 : W 0 3 = V 0 3 + nI 1) (h3 : W 11 8 = V 11 8) (h4 : W 1 2 = V 1 2) : (((x, W) : Int32 × (Nat → Nat → Int32)).1 = (-1) ∧ Sm ((x, W) : Int32 × (Nat → Nat → Int32)).2 V) ∨ (¬ ((x, W) : Int32 × (Nat → Nat → Int32)).1 = (-1) ∧ ((x, W) : Int32 × (Nat → Nat → Int32)).2 0 3 = V 0 3 + nI 1 ∧ ((x, W) : Int32 × (Nat → Nat → Int32)).2 11 8 = V 11 8 ∧ ((x, W) : Int32 × (Nat → Nat → Int32)).2 1 2 = V 1 2) := Or.inr ⟨h1, h2, h3, h4⟩
theorem go_off {V : Nat → Nat → Int32} (g : RwG V) : ((C2_letOneGo V).1 = (-1) ∧ Sm (C2_letOneGo V).2 V) ∨ (¬ (C2_letOneGo V).1 = (-1) ∧ (C2_letOneGo V).2 0 3 = V 0 3 + nI 1 ∧ (C2_letOneGo V).2 11 8 = V 11 8 ∧ (C2_letOneGo V).2 1 2 = V 1 2) := by
  have hs := ch_sd V
  have q := g _ hs
  unfold C2_letOneGo
  try dsimp only
  have s : Sm (rwS V (tN (C2_chosenSender V)) (C5_removeFirst (rwU V (tN (C2_chosenSender V)))).2) V := sm_rw (sm_r V)
  by_cases c : (C5_removeFirst (rwU V (tN (C2_chosenSender V)))).1 = (-1)
  · rw [if_pos c]
    exact Or.inl ⟨rfl, s⟩
  · rw [if_neg c]
    obtain ⟨w, w1, w2⟩ := q.resolve_left c
    rw [w2, nI_add]
    refine pr_or (fun e => ?_) ?_ ?_ ?_
    · have z := nI_pos (show tN (C2_chosenSender V) * 16 + w < 2 ^ 31 by omega)
      rw [show nI (tN (C2_chosenSender V) * 16 + w) = (-1) from e] at z
      exact z (by decide)
    · rw [go_v1, go_v3, s.1]
    · rw [go_v2, s.2.1]
    · rw [go_v4, s.2.2]
theorem off_go {V : Nat → Nat → Int32} (g : RwG V) (o : Off V) : Off (if (C2_letOneGo V).1 = (-1) then (C2_letOneGo V).2 else C2_offer (C2_letOneGo V).2 0 (C2_letOneGo V).1) := by
  rcases go_off g with ⟨a, b⟩ | ⟨a, b, c, d⟩
  · rw [if_pos a]; exact sm_off b o
  · rw [if_neg a]
    obtain ⟨x, y, z⟩ := sm_offer0 (V := (C2_letOneGo V).2) (w := (C2_letOneGo V).1)
    unfold Off
    rw [x, y, z, b, c, d, show V 0 3 = V 11 8 from o.1]
    exact ⟨rfl, o.2⟩
theorem off_rq {V : Nat → Nat → Int32} {k : Nat} {v : Int32} (o : Off V) : Off (C2_letRequestArrive V k v) := by
  have s1 : Sm (up1 V (11 + k) 1 v) V := sm_up (sm_r V) (by omega) (by omega)
  refine sm_off (W := V) ?_ o
  unfold C2_letRequestArrive
  try dsimp only
  split
  · exact sm_ans s1
  · split
    · exact sm_ans (sm_note s1)
    · split
      · split
        · exact sm_take s1
        · exact sm_offer (by omega) (sm_take s1)
      · exact sm_up s1 (by omega) (by omega)
theorem off_an {V : Nat → Nat → Int32} {k : Nat} {v : Int32} (g : RwG V) (hk : k < 7) (o : Off V) : Off (C2_letAnswerArrive V k v) := by
  have s1 : Sm (up1 V (11 + k) 3 v) V := sm_up (sm_r V) (by omega) (by omega)
  unfold C2_letAnswerArrive
  try dsimp only
  split
  · split
    · rename_i c1 c2
      subst c2
      have g2 : RwG (up1 (up1 V (11 + 0) 3 v) (11 + 0) 6 (nI 1)) := rwg_to g (fun c hc => by rw [show up1 (up1 V (11 + 0) 3 v) (11 + 0) 6 (nI 1) c = up1 V (11 + 0) 3 v c from setC_ne (by omega)]; exact setC_ne (by omega))
      exact off_go g2 (sm_off (sm_up s1 (by decide) (by decide)) o)
    · refine sm_off (W := V) ?_ o
      split
      · exact sm_up s1 (by omega) (by omega)
      · exact sm_offer (by assumption) (sm_up s1 (by omega) (by omega))
  · refine sm_off (W := V) ?_ o
    split
    · exact sm_req s1
    · split
      · exact sm_up (sm_req s1) (by omega) (by omega)
      · exact sm_take (sm_up (sm_req s1) (by omega) (by omega))
theorem hl_lt {V : Nat → Nat → Int32} {nS : Nat} {x : Int32} (h6 : nS ≤ 6) (e : V 0 0 = nI nS) (h : ¬ C2_hasLink V x = 0) : tN x < 7 := by
  unfold C2_hasLink at h
  by_cases a : x < 0
  · rw [if_pos a] at h; exact absurd rfl h
  · rw [if_neg a, e] at h
    by_cases b : nI nS < x
    · rw [if_pos b] at h; exact absurd rfl h
    · obtain ⟨r, hr, rfl⟩ := nI_of a
      rw [nI_ltI (by omega) hr] at b
      rw [tN_nI hr]; omega
theorem off_lau {V : Nat → Nat → Int32} {nS : Nat} (h6 : nS ≤ 6) (e : V 0 0 = nI nS) (g : RwG V) (o : Off V) : Off (lauS V) := by
  obtain ⟨V3, hV3⟩ : ∃ z, z = up1 (chS (up1 V 0 1 (C0_firstTime (chU V))) (C0_removeFirst (chU (up1 V 0 1 (C0_firstTime (chU V)))))) 0 4 ((chS (up1 V 0 1 (C0_firstTime (chU V))) (C0_removeFirst (chU (up1 V 0 1 (C0_firstTime (chU V)))))) 0 4 + nI 1) := ⟨_, rfl⟩
  have s3 : Sm V3 V := by rw [hV3]; exact sm_up (sm_ch (sm_up (sm_r V) (by decide) (by decide))) (by decide) (by decide)
  have o3 : Off V3 := sm_off s3 o
  have g3 : RwG V3 := rwg_to g (fun c hc => by
    rw [hV3]
    refine (setC_ne (by omega)).trans ((setC_ne (by omega)).trans ((setC_ne (by omega)).trans ((setC_ne (by omega)).trans (setC_ne (by omega))))))
  have e3 : V3 0 0 = nI nS := by
    rw [hV3, up1_at, if_neg (by decide)]
    show setC (setC (setC _ 4 _) 5 _) 6 _ 0 0 = _
    rw [setC_ne (show (0 : Nat) ≠ 6 by decide), setC_ne (show (0 : Nat) ≠ 5 by decide), setC_ne (show (0 : Nat) ≠ 4 by decide), up1_at, if_neg (by decide)]
    exact e
  unfold lauS
  try dsimp only
  rw [← hV3]
  by_cases c1 : C2_hasLink V3 (C0_firstLink (chU (up1 V 0 1 (C0_firstTime (chU V))))) = 0
  · rw [if_pos c1]; exact o3
  · rw [if_neg c1]
    have hk := hl_lt h6 e3 c1
    split
    · exact off_rq o3
    · split
      · exact off_an g3 hk o3
      · exact sm_off (sm_up (sm_r V3) (by omega) (by omega)) o3
