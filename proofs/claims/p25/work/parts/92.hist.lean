/-! the history on both sides -/
/-- a line of the class and a state of the reference that answer alike -/
def Gd (c : Nat) (V : Nat → Nat → Int32) (m : Nat → Int32) : Prop := ∃ L n p nS t ph, Rel V m L n p ∧ Inv V L n p nS t ph c ∧ t ≤ 1000000 ∧ Off V
theorem Gd_ag {c : Nat} {V W : Nat → Nat → Int32} {m m' : Nat → Int32} (h : Gd c W m) (a : AG V W) (e : ∀ j, j < 719 → m' j = m j) : Gd c V m' := by
  obtain ⟨L, n, p, nS, t, ph, r, i, ht, o⟩ := h
  exact ⟨L, n, p, nS, t, ph, R_m (Rel_ag r a) e, Inv_ag i a, ht, sm_off ⟨a 0 3 (by decide) (by decide), a 11 8 (by decide) (by decide), a 1 2 (by decide) (by decide)⟩ o⟩
theorem Gd_m {c : Nat} {V : Nat → Nat → Int32} {m m' : Nat → Int32} (h : Gd c V m) (e : ∀ j, j < 719 → m' j = m j) : Gd c V m' := Gd_ag h (AG_rfl V) e
theorem Gd_copy {c : Nat} {V W : Nat → Nat → Int32} {m m' : Nat → Int32} (h : Gd c W m) (e : ∀ j, j < 719 → m' j = m j) : Gd c (C2_copyFrom V W) m' := Gd_ag h (AG_copy V W) e
theorem Gd_up {c c' : Nat} {V : Nat → Nat → Int32} {m : Nat → Int32} (h : Gd c V m) (hc : c ≤ c') : Gd c' V m := by
  obtain ⟨L, n, p, nS, t, ph, r, i, ht, o⟩ := h
  exact ⟨L, n, p, nS, t, ph, r, ⟨i.1, i.2.1, i.2.2.1, i.2.2.2.1, i.2.2.2.2.1, Nat.le_trans i.2.2.2.2.2 hc⟩, ht, o⟩
theorem Gd_bo {c : Nat} {V : Nat → Nat → Int32} {m : Nat → Int32} (h : Gd c V m) : boL V := by
  obtain ⟨L, n, p, nS, t, ph, r, i, ht, o⟩ := h
  intro k hk
  obtain ⟨-, l2, l3, -⟩ := i.2.2.1 k hk
  rw [l2, l3]
  constructor <;> (split <;> exact ⟨rfl, rfl⟩)
/-- the history: x states; each at its place -/
def HsX (c x : Nat) (F : Nat → Nat → Nat → Int32) (M : Nat → Nat → Int32) : Prop := x ≤ 4 ∧ F 8 0 0 = nI x ∧ M 0 0 = nI x ∧ (∃ s : Nat → Nat, (∀ i, i < 4 → s i < 4 ∧ F 8 1 i = nI (s i)) ∧ (∀ i j, i < 4 → j < 4 → s i = s j → i = j) ∧ ∀ i, i < x → Gd c (F (3 + s i)) (fun j => M 3 (i * 719 + j)))
def Hs (c : Nat) (F : Nat → Nat → Nat → Int32) (M : Nat → Nat → Int32) : Prop := ∃ x, HsX c x F M
theorem Hs_hi {c : Nat} {F : Nat → Nat → Nat → Int32} {M : Nat → Nat → Int32} (h : Hs c F M) : hiOK F := by
  obtain ⟨x, x4, e, -, s, hs, -⟩ := h
  refine ⟨by rw [e]; exact vp_in_nI' (by omega), fun k hk => ?_⟩
  obtain ⟨a, b⟩ := hs k hk
  rw [b, tN_nI (show s k < 2 ^ 31 by omega)]
  exact a
/-- what the history needs of another pair -/
theorem Hs_frame {c c' : Nat} {F F' : Nat → Nat → Nat → Int32} {M M' : Nat → Nat → Int32} (h : Hs c F M) (hc : c ≤ c') (e8 : F' 8 0 0 = F 8 0 0) (e81 : F' 8 1 = F 8 1) (es : ∀ s, s < 4 → F' (3 + s) = F (3 + s)) (m0 : M' 0 0 = M 0 0) (m3 : M' 3 = M 3) : Hs c' F' M' := by
  obtain ⟨x, x4, a, b, s, hs, hd, hg⟩ := h
  refine ⟨x, x4, e8.trans a, m0.trans b, s, fun i hi => ?_, hd, fun i hi => ?_⟩
  · rw [e81]; exact hs i hi
  · rw [es _ (hs i (by omega)).1, m3]
    exact Gd_up (hg i hi) hc
/-- a state is put behind the others -/
def recT (F : Nat → Nat → Nat → Int32) : Nat → Nat → Nat → Int32 :=
  setF (setF F (3 + tN (F 8 1 (tN (F 8 0 0)))) (C2_copyFrom (F (3 + tN (F 8 1 (tN (F 8 0 0))))) (F 0))) 8 (up1 ((setF F (3 + tN (F 8 1 (tN (F 8 0 0)))) (C2_copyFrom (F (3 + tN (F 8 1 (tN (F 8 0 0))))) (F 0))) 8) 0 0 ((setF F (3 + tN (F 8 1 (tN (F 8 0 0)))) (C2_copyFrom (F (3 + tN (F 8 1 (tN (F 8 0 0))))) (F 0))) 8 0 0 + nI 1))
theorem rec_eq (F : Nat → Nat → Nat → Int32) : C1_record F = recT (hsD F) := rfl
def pushT (M : Nat → Nat → Int32) : Nat → Nat → Int32 :=
  up1 (setC M 3 (ptN (M 3) ((tN (M 0 0)) * 719) (M 2) 719)) 0 0 ((M 0 0) + (nI 1))
theorem recT_8 {F : Nat → Nat → Nat → Int32} {q : Nat} (hq : tN (F 8 1 (tN (F 8 0 0))) = q) (h4 : q < 4) : recT F 8 = up1 (F 8) 0 0 (F 8 0 0 + nI 1) ∧ recT F (3 + q) = C2_copyFrom (F (3 + q)) (F 0) ∧ ∀ a, a ≠ 8 → a ≠ 3 + q → recT F a = F a := by
  unfold recT
  rw [hq]
  have e8 : setF F (3 + q) (C2_copyFrom (F (3 + q)) (F 0)) 8 = F 8 := setF_ne (by omega)
  refine ⟨?_, ?_, fun a h1 h2 => ?_⟩
  · rw [setF_eq, e8]
  · rw [setF_ne (by omega), setF_eq]
  · rw [setF_ne h1, setF_ne h2]
theorem pushT_at (M : Nat → Nat → Int32) : pushT M 0 0 = M 0 0 + nI 1 ∧ pushT M 3 = ptN (M 3) ((tN (M 0 0)) * 719) (M 2) 719 ∧ (∀ c, c ≠ 0 → c ≠ 3 → pushT M c = M c) ∧ ∀ i, i ≠ 0 → pushT M 0 i = M 0 i := by
  unfold pushT
  refine ⟨?_, ?_, fun c h1 h2 => ?_, fun i hi => ?_⟩
  · rw [up1_at, if_pos ⟨rfl, rfl⟩]
  · exact (setC_ne (by decide)).trans (setC_eq M 3 _)
  · exact (setC_ne h1).trans (setC_ne h2)
  · rw [up1_at, if_neg (fun z => hi z.2)]
    exact congrFun (setC_ne (show (0 : Nat) ≠ 3 by decide)) i
theorem HsX_rec {c x : Nat} {F : Nat → Nat → Nat → Int32} {M : Nat → Nat → Int32} (h : HsX c x F M) (hx : x < 4) (g : Gd c (F 0) (M 2)) : HsX c (x + 1) (recT F) (pushT M) := by
  obtain ⟨x4, a, b, s, hs, hd, hg⟩ := h
  have hq : tN (F 8 1 (tN (F 8 0 0))) = s x := by
    rw [a, tN_nI (show x < 2 ^ 31 by omega), (hs x hx).2, tN_nI (by have := (hs x hx).1; omega)]
  obtain ⟨r1, r2, r3⟩ := recT_8 hq (hs x hx).1
  obtain ⟨p1, p2, p3, p4⟩ := pushT_at M
  refine ⟨by omega, ?_, by rw [p1, b, nI_add], s, fun i hi => ?_, hd, fun i hi => ?_⟩
  · rw [r1, up1_at, if_pos ⟨rfl, rfl⟩, a, nI_add]
  · rw [r1, up1_at, if_neg (by omega)]
    exact hs i hi
  · rw [p2, b, tN_nI (show x < 2 ^ 31 by omega)]
    by_cases e : i = x
    · subst e
      rw [r2]
      refine Gd_copy g (fun j hj => ?_)
      show (if i * 719 ≤ i * 719 + j ∧ i * 719 + j < i * 719 + 719 then M 2 (i * 719 + j - i * 719) else M 3 (i * 719 + j)) = M 2 j
      rw [if_pos (by omega), Nat.add_sub_cancel_left]
    · have hi4 := (hs i (by omega)).1
      rw [r3 (3 + s i) (by omega) (fun z => e (hd i x (by omega) hx (by omega)))]
      refine Gd_m (hg i (by omega)) (fun j hj => ?_)
      show (if x * 719 ≤ i * 719 + j ∧ i * 719 + j < x * 719 + 719 then M 2 (i * 719 + j - x * 719) else M 3 (i * 719 + j)) = M 3 (i * 719 + j)
      rw [if_neg (by omega)]
/-- the oldest state is dropped -/
def dropM (M : Nat → Nat → Int32) : Nat → Nat → Int32 := up1 (setC M 3 (sh7 (M 3) 2157)) 0 0 ((M 0 0) - (nI 1))
theorem dropM_at (M : Nat → Nat → Int32) : dropM M 0 0 = M 0 0 - nI 1 ∧ dropM M 3 = sh7 (M 3) 2157 ∧ (∀ c, c ≠ 0 → c ≠ 3 → dropM M c = M c) ∧ ∀ i, i ≠ 0 → dropM M 0 i = M 0 i := by
  unfold dropM
  refine ⟨?_, ?_, fun c h1 h2 => ?_, fun i hi => ?_⟩
  · rw [up1_at, if_pos ⟨rfl, rfl⟩]
  · exact (setC_ne (by decide)).trans (setC_eq M 3 _)
  · exact (setC_ne h1).trans (setC_ne h2)
  · rw [up1_at, if_neg (fun z => hi z.2)]
    exact congrFun (setC_ne (show (0 : Nat) ≠ 3 by decide)) i
theorem drop_8 (F : Nat → Nat → Nat → Int32) : C1_dropOldest F 8 0 0 = nI 3 ∧ C1_dropOldest F 8 1 0 = F 8 1 1 ∧ C1_dropOldest F 8 1 1 = F 8 1 2 ∧ C1_dropOldest F 8 1 2 = F 8 1 3 ∧ C1_dropOldest F 8 1 3 = F 8 1 0 := ⟨rfl, rfl, rfl, rfl, rfl⟩
theorem HsX_drop {c : Nat} {F : Nat → Nat → Nat → Int32} {M : Nat → Nat → Int32} (h : HsX c 4 F M) : HsX c 3 (C1_dropOldest F) (dropM M) := by
  obtain ⟨x4, a, b, s, hs, hd, hg⟩ := h
  obtain ⟨d0, d1, d2, d3, d4⟩ := drop_8 F
  obtain ⟨p1, p2, p3, p4⟩ := dropM_at M
  refine ⟨by decide, d0, by rw [p1, b]; rfl, fun i => s ((i + 1) % 4), fun i hi => ?_, fun i j hi hj e => ?_, fun i hi => ?_⟩
  · refine ⟨(hs _ (by omega)).1, ?_⟩
    rcases (show i = 0 ∨ i = 1 ∨ i = 2 ∨ i = 3 by omega) with rfl | rfl | rfl | rfl
    · exact d1.trans (hs 1 (by decide)).2
    · exact d2.trans (hs 2 (by decide)).2
    · exact d3.trans (hs 3 (by decide)).2
    · exact d4.trans (hs 0 (by decide)).2
  · have := hd _ _ (by omega) (by omega) e
    omega
  · have e : (i + 1) % 4 = i + 1 := by omega
    show Gd c (C1_dropOldest F (3 + s ((i + 1) % 4))) _
    rw [e, k_dropOldest F (by have := (hs (i + 1) (by omega)).1; omega), p2]
    refine Gd_m (hg (i + 1) (by omega)) (fun j hj => ?_)
    show (if i * 719 + j < 2157 then M 3 (i * 719 + j + 719) else M 3 (i * 719 + j)) = M 3 ((i + 1) * 719 + j)
    rw [if_pos (by omega), show i * 719 + j + 719 = (i + 1) * 719 + j by omega]
theorem push_4 {M : Nat → Nat → Int32} (h : M 0 0 = nI 4) : C8_push M = pushT (dropM M) := by
  have d3 : dropM M 0 0 = nI 3 := by rw [(dropM_at M).1, h]; rfl
  have hT : ∀ D : Nat → Nat → Int32, D 0 0 = nI 3 → up1 (setC D 3 (ptN (D 3) 2157 (D 2) 719)) 0 0 (setC D 3 (ptN (D 3) 2157 (D 2) 719) 0 0 + nI 1) = pushT D := fun D hD => by
    unfold pushT
    rw [show setC D 3 (ptN (D 3) 2157 (D 2) 719) 0 0 = D 0 0 from congrFun (setC_ne (show (0 : Nat) ≠ 3 by decide)) 0, hD, show tN (nI 3) * 719 = 2157 by rw [tN_nI (show 3 < 2 ^ 31 by decide)]]
  unfold C8_push
  rw [if_pos h]
  exact hT (dropM M) d3
theorem push_n {M : Nat → Nat → Int32} (h : ¬ M 0 0 = nI 4) : C8_push M = pushT M := by
  unfold C8_push
  rw [if_neg h]
  rfl
theorem Hs_record {c : Nat} {F : Nat → Nat → Nat → Int32} {M : Nat → Nat → Int32} (h : Hs c F M) (g : Gd c (F 0) (M 2)) : Hs c (C1_record F) (C8_push M) := by
  obtain ⟨x, hX⟩ := h
  have x4 := hX.1
  have a := hX.2.1
  have b := hX.2.2.1
  by_cases e : x = 4
  · subst e
    rw [push_4 b, rec_eq]
    have eD : hsD F = C1_dropOldest F := by
      unfold hsD
      rw [if_pos (by rw [a]; exact (nI_leI (by decide) (by decide)).mpr (Nat.le_refl 4))]
    rw [eD]
    refine ⟨4, HsX_rec (HsX_drop hX) (by decide) ?_⟩
    rw [k_dropOldest F (by decide), (dropM_at M).2.2.1 2 (by decide) (by decide)]
    exact g
  · rw [push_n (by rw [b, nI_eq (by omega) (by decide)]; exact e), rec_eq]
    have eD : hsD F = F := by
      unfold hsD
      rw [if_neg (by rw [a, nI_leI (by decide) (by omega)]; omega)]
    rw [eD]
    exact ⟨x + 1, HsX_rec hX (by omega) g⟩
theorem push_fr {M : Nat → Nat → Int32} : (∀ c, c ≠ 0 → c ≠ 3 → C8_push M c = M c) ∧ ∀ i, i ≠ 0 → C8_push M 0 i = M 0 i := by
  by_cases e : M 0 0 = nI 4
  · rw [push_4 e]
    exact ⟨fun c h1 h2 => ((pushT_at _).2.2.1 c h1 h2).trans ((dropM_at M).2.2.1 c h1 h2), fun i hi => ((pushT_at _).2.2.2 i hi).trans ((dropM_at M).2.2.2 i hi)⟩
  · rw [push_n e]
    exact ⟨(pushT_at M).2.2.1, (pushT_at M).2.2.2⟩
theorem rec_0 {F : Nat → Nat → Nat → Int32} (h : hiOK F) : C1_record F 0 = F 0 := by
  have q := hq4 h
  unfold C1_record
  rw [setF_ne (by decide)]
  unfold hsE
  rw [setF_ne (by omega)]
  exact k_hsD F (by decide)
/-- undo -/
theorem Hs_undo {c : Nat} {F : Nat → Nat → Nat → Int32} {M : Nat → Nat → Int32} (h : Hs c F M) (g : Gd c (F 0) (M 1)) : (C1_giveBack F).1 = (C8_undo M).1 ∧ Hs c (C1_giveBack F).2 (C8_undo M).2 ∧ Gd c ((C1_giveBack F).2 0) ((C8_undo M).2 1) ∧ (0 < F 8 0 0 → boL (F (3 + hsG F))) := by
  obtain ⟨x, x4, a, b, s, hs, hd, hg⟩ := h
  unfold C1_giveBack C8_undo
  rw [b]
  by_cases e : x = 0
  · subst e
    have n0 : ¬ 0 < F 8 0 0 := by rw [a]; decide
    rw [if_neg n0, if_pos (show nI 0 = 0 from rfl)]
    exact ⟨rfl, ⟨0, x4, a, b, s, hs, hd, hg⟩, g, fun z => absurd z n0⟩
  · obtain ⟨y, rfl⟩ : ∃ y, x = y + 1 := ⟨x - 1, by omega⟩
    have hG : hsG F = s y := by
      unfold hsG
      rw [a, tN_nI (show y + 1 < 2 ^ 31 by omega), Nat.add_sub_cancel, (hs y (by omega)).2, tN_nI (by have := (hs y (by omega)).1; omega)]
    have sy := (hs y (by omega)).1
    have gy := hg y (by omega)
    have pos : 0 < F 8 0 0 := by rw [a]; exact (nI_lt0 (by omega)).mpr (by omega)
    rw [if_pos pos, if_neg (show ¬ nI (y + 1) = 0 by rw [nI_eq0 (by omega)]; omega), hG, a, tN_nI (show y + 1 < 2 ^ 31 by omega), Nat.add_sub_cancel]
    try dsimp only
    have es : nI (y + 1) - nI 1 = nI y := by rw [pk_sub (by omega)]; rfl
    rw [es]
    have f8 : setF (setF F 8 (up1 (F 8) 0 0 (nI y))) 0 (C2_copyFrom (setF F 8 (up1 (F 8) 0 0 (nI y)) 0) (setF F 8 (up1 (F 8) 0 0 (nI y)) (3 + s y))) 8 = up1 (F 8) 0 0 (nI y) := by
      rw [setF_ne (by decide), setF_eq]
    have m0 : setC (up1 M 0 0 (nI y)) 1 (gtN (up1 M 0 0 (nI y) 1) (up1 M 0 0 (nI y) 3) (y * 719) 719) 0 0 = nI y := by
      rw [setC_ne (show (0 : Nat) ≠ 1 by decide), up1_at, if_pos ⟨rfl, rfl⟩]
    refine ⟨?_, ⟨y, by omega, ?_, m0, s, fun i hi => ?_, hd, fun i hi => ?_⟩, ?_, fun _ => Gd_bo gy⟩
    · rw [f8, m0, up1_at, if_pos ⟨rfl, rfl⟩]
    · rw [f8, up1_at, if_pos ⟨rfl, rfl⟩]
    · rw [f8, up1_at, if_neg (by omega)]
      exact hs i hi
    · have si := (hs i (by omega)).1
      rw [setF_ne (by omega), setF_ne (by omega)]
      refine Gd_m (hg i (by omega)) (fun j hj => ?_)
      rw [setC_ne (show (3 : Nat) ≠ 1 by decide), up1_at, if_neg (by omega)]
    · rw [setF_eq, setF_ne (show 3 + s y ≠ 8 by omega), setC_eq]
      refine Gd_copy gy (fun j hj => ?_)
      show (if j < 719 then up1 M 0 0 (nI y) 3 (y * 719 + j) else up1 M 0 0 (nI y) 1 j) = M 3 (y * 719 + j)
      rw [if_pos hj, up1_at, if_neg (by omega)]
