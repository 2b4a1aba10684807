/-! more calls on both sides -/
theorem sm_del {V : Nat → Nat → Int32} {l w d : Int32} : Sm (C2_changeDelay V l w d).2 V := by
  unfold C2_changeDelay
  try dsimp only
  repeat' split
  all_goals first | exact sm_r V | exact sm_up (sm_r V) (by omega) (by omega)
theorem AG_sym {V W : Nat → Nat → Int32} (h : AG V W) : AG W V := fun c i hc hi => (h c i hc hi).symm
theorem P_del {c : Nat} {F : Nat → Nat → Nat → Int32} {M : Nat → Nat → Int32} (h : Wh c F M) (l w d : Int32) : boL (C2_changeDelay (tr0 F) l w d).2 ∧ (C7_setDelay F l w d).1 = (C8_setDelay M l w d).1 ∧ Wh c (C7_setDelay F l w d).2 (C8_setDelay M l w d).2 := by
  have g := Gd_tr h.1
  obtain ⟨L, n, p, nS, t, ph, r, i, ht, o⟩ := g
  obtain ⟨q1, q2, R, I, -⟩ := G_delOp r i l w d
  have g' : Gd c (C2_changeDelay (tr0 F) l w d).2 ((C8_setsDelay (C8_putAside M) l w d).2 1) := ⟨L, n, p, nS, t, ph, R, I, ht, sm_off sm_del o⟩
  have eM : C8_setDelay M l w d = C8_recorded (C8_setsDelay (C8_putAside M) l w d).2 (C8_setsDelay (C8_putAside M) l w d).1 := rfl
  rw [del_eq, eM, ← q1]
  refine ⟨Gd_bo g', T_rec h (Nat.le_refl c) ?_ (fun a h1 h2 => (fr_setsDelay h1).trans ((pa_at M).1 a h2)) (fun _ => g') (fun z => ?_)⟩
  · rw [fr_setsDelay (by decide)]
    exact Gd_m h.1 (pa_at M).2
  · have e := (q2 (by rw [← q1]; exact z)).1
    rw [e] at g'
    exact Gd_ag g' (AG_sym (AG_copy (F 1) (F 0))) (fun _ _ => rfl)
theorem bo_ag {V W : Nat → Nat → Int32} (a : AG V W) (h : boL W) : boL V := fun k hk => by
  rw [ag_lk a hk (by decide), ag_lk a hk (by decide)]
  exact h k hk
theorem rec1 (M : Nat → Nat → Int32) : C8_record M 1 = M 1 := fr_record (by decide) (by decide) (by decide)
theorem add_nn {a b : Nat} {x y : Int32} (hx : x = nI a) (hy : y = nI b) (h : a + b < 2 ^ 31) : 0 ≤ x + y := by
  rw [hx, hy, nI_add]
  exact Int32.not_lt.mp (nI_pos h)
theorem P_build {c : Nat} {F : Nat → Nat → Nat → Int32} {M : Nat → Nat → Int32} (h : Wh c F M) (st : Int32) : boL (C2_clearTo (tr0 F) st) ∧ (C7_build F st).1 = (C8_build M st).1 ∧ Wh c (C7_build F st).2 (C8_build M st).2 := by
  have bo : boL (C2_clearTo (tr0 F) st) := fun k hk => by
    rw [clr_lk _ _ hk (by decide), clr_lk _ _ hk (by decide)]
    exact ⟨⟨rfl, rfl⟩, rfl, rfl⟩
  refine ⟨bo, ?_⟩
  rcases wi_ok2 (v := st) (a := 1) (b := 6) (by decide) (by decide) with ⟨w0, w1⟩ | ⟨w0, k, k1, k2, rfl⟩
  · have eC : C7_build F st = ((-2), F) := by
      unfold C7_build
      by_cases q : st < nI 1
      · rw [if_pos q]
      · rw [if_neg q, if_neg (Int32.not_le.mpr (w1.resolve_left q))]
    have eM : C8_build M st = ((-2), M) := by unfold C8_build; rw [if_pos w0]
    rw [eC, eM]; exact ⟨rfl, h⟩
  · obtain ⟨L, n, p, nS, t, ph, r, i, ht, o⟩ := h.1
    obtain ⟨f1, x, x6, f2⟩ := Q_full r i
    obtain ⟨c0, q0, e0, -⟩ := r.2.2.2.2.1 0 (by decide)
    obtain ⟨c1, q1, e1, -⟩ := r.2.2.2.2.1 1 (by decide)
    have ew : C2_waitingWords (F 0) = nI (c0 + c1) := by
      unfold C2_waitingWords
      rw [show F 0 27 0 = nI c0 from e0, show F 0 28 0 = nI c1 from e1, nI_add]
    have eC : C7_build F (nI k) = C7_accept (setF F 1 (C2_clearTo (tr0 F) (nI k))) (C2_fullStages (F 0) + C2_waitingWords (F 0)) := by
      unfold C7_build tr0
      try dsimp only
      rw [if_neg (show ¬ nI k < nI 1 by rw [nI_ltI (by omega) (by decide)]; omega), if_pos ((nI_leI (by omega) (by decide)).mpr k2), sff, setF_eq]
      rfl
    have eM : C8_build M (nI k) = ((((C8_record M) 1 11) + ((C8_record M) 1 12)) + C8_fullStages (C8_record M), C8_clean (C8_record M) (nI k)) := by
      unfold C8_build
      rw [if_neg w0]
    have g2 : Set2 (tr0 F) ((C8_record M) 1) := by
      rw [rec1]
      have gt := Gd_tr h.1
      rw [(pa_at M).1 1 (by decide)] at gt
      obtain ⟨L2, n2, p2, nS2, t2, ph2, r2, i2, -, o2⟩ := gt
      exact set2_of r2 i2 o2
    obtain ⟨R, I, O⟩ := G_clear k1 k2 g2 c
    have g' : Gd c (C2_clearTo (tr0 F) (nI k)) (C8_clean (C8_record M) (nI k) 1) := ⟨_, _, _, _, _, _, R, I, by decide, O⟩
    obtain ⟨y1, y2⟩ := T_acc (M' := C8_clean (C8_record M) (nI k)) (X := C2_clearTo (tr0 F) (nI k)) h (Nat.le_refl c) (add_nn f2 ew (by omega)) (Gd_m h.1 (pa_at M).2) (fun a _ h2 => (pa_at M).1 a h2) (fun a h1 _ => (cln_c _ _ h1).trans rfl) g'
    rw [eC, eM]
    refine ⟨?_, y2⟩
    rw [y1, rec1]
    show _ = ((M 1 11) + (M 1 12)) + C8_fullStages (C8_record M)
    rw [show C8_fullStages (C8_record M) = C8_fullStages M by unfold C8_fullStages; rw [rec1], ← f1, ← Q_ww r, Int32.add_comm]
theorem P_set {c : Nat} {F : Nat → Nat → Nat → Int32} {M : Nat → Nat → Int32} (h : Wh c F M) (se v : Int32) : (∀ k : Nat, boL (up1 (tr0 F) 1 k v)) ∧ (C7_set F se v).1 = (C8_set M se v).1 ∧ Wh c (C7_set F se v).2 (C8_set M se v).2 := by
  have gt := Gd_tr h.1
  have bt := Gd_bo gt
  refine ⟨fun k j hj => ?_, ?_⟩
  · rw [up1_at, up1_at, if_neg (by omega), if_neg (by omega)]
    exact bt j hj
  · obtain ⟨L, n, p, nS, t, ph, r, i, ht, o⟩ := id h.1
    obtain ⟨le, l1, l2⟩ := i.1.2.2.2.2.1
    obtain ⟨th, t1, t2⟩ := i.1.2.2.2.2.2.1
    obtain ⟨tu, u1, u2⟩ := o.2
    rw [(pa_at M).1 1 (by decide)] at gt
    have es : ∀ s, s < 3 → F 0 1 s = M 1 s := fun s hs => R_eq r (show DM 1 s by unfold DM; omega)
    have nn : ∀ s, s < 3 → 0 ≤ F 0 1 s := fun s hs => by
      rcases (show s = 0 ∨ s = 1 ∨ s = 2 by omega) with rfl | rfl | rfl
      · rw [l2]; exact Int32.not_lt.mp (nI_pos (by omega))
      · rw [t2]; exact Int32.not_lt.mp (nI_pos (by omega))
      · rw [u2]; exact Int32.not_lt.mp (nI_pos (by omega))
    have go : ∀ s x, s < 3 → x ≤ 20 → (s = 2 → x ≤ 1) → (C7_accept (setF F 1 (up1 (tr0 F) 1 s (nI x))) (F 0 1 s)).1 = F 0 1 s ∧ Wh c (C7_accept (setF F 1 (up1 (tr0 F) 1 s (nI x))) (F 0 1 s)).2 (up1 (C8_record M) 1 s (nI x)) := fun s x hs hx h2 => by
      obtain ⟨L2, n2, p2, nS2, t2', ph2, r2, i2, ht2, o2⟩ := gt
      have r3 : Rel (tr0 F) ((C8_record M) 1) L2 n2 p2 := by rw [rec1]; exact r2
      obtain ⟨R, I⟩ := G_set (M := C8_record M) (s := s) (x := x) r3 i2 hs hx
      have O : Off (up1 (tr0 F) 1 s (nI x)) := by
        obtain ⟨oa, y, y1, y2⟩ := o2
        refine ⟨?_, ?_⟩
        · rw [up1_at, up1_at, if_neg (by omega), if_neg (by omega)]
          exact oa
        · rw [up1_at]
          by_cases e : s = 2
          · rw [if_pos ⟨rfl, e.symm⟩]; exact ⟨x, h2 e, rfl⟩
          · rw [if_neg (fun z => e z.2.symm)]; exact ⟨y, y1, y2⟩
      exact T_acc (M' := up1 (C8_record M) 1 s (nI x)) (X := up1 (tr0 F) 1 s (nI x)) (x := F 0 1 s) h (Nat.le_refl c) (nn s hs) (Gd_m h.1 (pa_at M).2) (fun a _ h2 => (pa_at M).1 a h2) (fun a h1 _ => (fr_up h1).trans rfl) ⟨_, _, _, _, _, _, R, I, ht2, O⟩
    unfold C7_set C8_set
    rcases wi_ok2 (v := se) (a := 0) (b := 2) (by decide) (by decide) with ⟨w0, w1⟩ | ⟨w0, s, -, s2, rfl⟩
    · rw [if_pos w0]
      by_cases z : se < 0
      · rw [if_pos z]; exact ⟨rfl, h⟩
      · rw [if_neg z, if_neg]
        · exact ⟨rfl, h⟩
        · intro y
          obtain ⟨q, hq, rfl⟩ := nI_of z
          have e := w1.resolve_left z
          rw [nI_ltI (by decide) hq] at e
          rw [nI_ltI hq (by decide)] at y
          omega
    · rw [if_neg w0, if_neg (nI_pos (by omega)), if_pos (show nI s < nI 3 by rw [nI_ltI (by omega) (by decide)]; omega), tN_nI (show s < 2 ^ 31 by omega)]
      try dsimp only
      rw [← es s (by omega), sff, setF_eq]
      have k20 : ∀ (b : Nat), b ≤ 20 → (s = 2 → b = 1) → (v < 0 ∧ C8_within v (nI 0) (nI b) = 0) ∨ (¬ v < 0 ∧ ¬ v ≤ nI b ∧ C8_within v (nI 0) (nI b) = 0) ∨ (¬ v < 0 ∧ v ≤ nI b ∧ ¬ C8_within v (nI 0) (nI b) = 0 ∧ ∃ x, x ≤ 20 ∧ (s = 2 → x ≤ 1) ∧ v = nI x) := fun b hb hs2 => by
        rcases wi_ok2 (v := v) (a := 0) (b := b) (by decide) (by omega) with ⟨w0, w1⟩ | ⟨w0, x, -, x2, rfl⟩
        · by_cases z : v < 0
          · exact Or.inl ⟨z, w0⟩
          · exact Or.inr (Or.inl ⟨z, Int32.not_le.mpr (w1.resolve_left z), w0⟩)
        · exact Or.inr (Or.inr ⟨nI_pos (by omega), (nI_leI (by omega) (by omega)).mpr x2, w0, x, by omega, fun e => by have := hs2 e; omega, rfl⟩)
      by_cases e2 : nI s = nI 2
      · have e3 : s = 2 := (nI_eq (by omega) (by decide)).mp e2
        rw [if_pos e2, if_pos e2]
        rcases k20 1 (by decide) (fun _ => rfl) with ⟨z1, z2⟩ | ⟨z1, z2, z3⟩ | ⟨z1, z2, z3, x, x1, x2, rfl⟩
        · rw [if_pos z1, if_pos z2]; exact ⟨rfl, h⟩
        · rw [if_neg z1, if_neg z2, if_pos z3]; exact ⟨rfl, h⟩
        · rw [if_neg z1, if_pos z2, if_neg z3]
          by_cases q : F 0 1 s = nI x
          · rw [if_pos q, if_pos q]; exact ⟨rfl, h⟩
          · rw [if_neg q, if_neg q]; exact go s x (by omega) x1 x2
      · have e3 : ¬ s = 2 := fun z => e2 (by rw [z])
        rw [if_neg e2, if_neg e2]
        rcases k20 20 (by decide) (fun z => absurd z e3) with ⟨z1, z2⟩ | ⟨z1, z2, z3⟩ | ⟨z1, z2, z3, x, x1, x2, rfl⟩
        · rw [if_pos z1, if_pos z2]; exact ⟨rfl, h⟩
        · rw [if_neg z1, if_neg z2, if_pos z3]; exact ⟨rfl, h⟩
        · rw [if_neg z1, if_pos z2, if_neg z3]
          by_cases q : F 0 1 s = nI x
          · rw [if_pos q, if_pos q]; exact ⟨rfl, h⟩
          · rw [if_neg q, if_neg q]; exact go s x (by omega) x1 x2
theorem P_restore {c : Nat} {F : Nat → Nat → Nat → Int32} {M : Nat → Nat → Int32} (h : Wh c F M) : boL (F 2) ∧ boL (C2_copyFrom (F 1) (F 2)) ∧ (C7_restore F).1 = (C8_restore M).1 ∧ Wh c (C7_restore F).2 (C8_restore M).2 := by
  unfold C7_restore C8_restore
  rcases h.2.2.1 with ⟨a, b, bo⟩ | ⟨a, b, g⟩
  · rw [if_pos (show F 8 0 1 = 0 from a), if_pos (show M 0 1 = 0 from b)]
    exact ⟨bo, bo_ag (AG_copy _ _) bo, rfl, h⟩
  · have na : ¬ F 8 0 1 = 0 := by rw [a]; decide
    rw [if_neg na, if_neg (show ¬ M 0 1 = 0 by rw [b]; decide)]
    have g1 : Gd c (C2_copyFrom (F 1) (F 2)) (M 4) := Gd_copy g (fun _ _ => rfl)
    obtain ⟨L, n, p, nS, t, ph, r, i, ht, o⟩ := id g
    have et : F 2 0 1 = nI t := i.1.2.2.2.1
    have et2 : F 2 0 1 = M 4 4 := r.1 0 1 (by decide)
    have r4 : C8_record M 4 = M 4 := fr_record (by decide) (by decide) (by decide)
    obtain ⟨y1, y2⟩ := T_acc (M' := setC (C8_record M) 1 (cpN (C8_record M 4) (C8_record M 1) 719)) (X := C2_copyFrom (F 1) (F 2)) (x := F 2 0 1) h (Nat.le_refl c) (by rw [et]; exact Int32.not_lt.mp (nI_pos (by omega))) (Gd_m h.1 (pa_at M).2) (fun a _ h2 => (pa_at M).1 a h2) (fun a h1 _ => (setC_ne h1).trans rfl) (by
      rw [setC_eq, r4]
      exact Gd_m g1 (fun j hj => if_pos hj))
    refine ⟨Gd_bo g, Gd_bo g1, ?_, y2⟩
    refine y1.trans ?_
    show _ = setC (C8_record M) 1 (cpN (C8_record M 4) (C8_record M 1) 719) 1 4
    rw [setC_eq, r4, et2]
    rfl
theorem P_clearText {c : Nat} {F : Nat → Nat → Nat → Int32} {M : Nat → Nat → Int32} (h : Wh c F M) : (C7_clearText F).1 = (C8_clearText M).1 ∧ Wh c (C7_clearText F).2 (C8_clearText M).2 := by
  obtain ⟨g, hh, hs, x, x6, a, b, hx, hp⟩ := h
  refine ⟨a.trans b.symm, ?_, ?_, ?_, 0, by decide, rfl, rfl, fun i hi => absurd hi (Nat.not_lt_zero i), hp⟩
  · exact g
  · exact Hs_frame hh (Nat.le_refl c) rfl rfl (fun s hs => setF_ne (by omega)) rfl rfl
  · exact Sn_frame hs (Nat.le_refl c) rfl rfl rfl rfl
