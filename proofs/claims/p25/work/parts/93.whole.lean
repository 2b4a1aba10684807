/-! the two objects: what binds them between two calls -/
def Sn (c : Nat) (F : Nat → Nat → Nat → Int32) (M : Nat → Nat → Int32) : Prop := (F 8 0 1 = nI 0 ∧ M 0 1 = nI 0 ∧ boL (F 2)) ∨ (F 8 0 1 = nI 1 ∧ M 0 1 = nI 1 ∧ Gd c (F 2) (M 4))
def Tx (F : Nat → Nat → Nat → Int32) (M : Nat → Nat → Int32) : Prop := ∃ x, x ≤ 60 ∧ F 7 0 0 = nI x ∧ M 0 2 = nI x ∧ (∀ i, i < x → F 7 1 i = M 5 i ∧ ∃ v, v < 65536 ∧ F 7 1 i = nI v) ∧ vp_in (F 7 0 1) 21
def Wh (c : Nat) (F : Nat → Nat → Nat → Int32) (M : Nat → Nat → Int32) : Prop := Gd c (F 0) (M 1) ∧ Hs c F M ∧ Sn c F M ∧ Tx F M
theorem Sn_frame {c c' : Nat} {F F' : Nat → Nat → Nat → Int32} {M M' : Nat → Nat → Int32} (h : Sn c F M) (hc : c ≤ c') (e8 : F' 8 0 1 = F 8 0 1) (e2 : F' 2 = F 2) (m0 : M' 0 1 = M 0 1) (m4 : M' 4 = M 4) : Sn c' F' M' := by
  unfold Sn
  rw [e8, e2, m0, m4]
  rcases h with h | ⟨a, b, g⟩
  · exact Or.inl h
  · exact Or.inr ⟨a, b, Gd_up g hc⟩
theorem Tx_frame {F F' : Nat → Nat → Nat → Int32} {M M' : Nat → Nat → Int32} (h : Tx F M) (e7 : F' 7 = F 7) (m0 : M' 0 2 = M 0 2) (m5 : M' 5 = M 5) : Tx F' M' := by
  unfold Tx
  rw [e7, m0, m5]
  exact h
/-- the trial line and the state put aside may be anything -/
theorem Wh_frame {c c' : Nat} {F F' : Nat → Nat → Nat → Int32} {M M' : Nat → Nat → Int32} (h : Wh c F M) (hc : c ≤ c') (f : ∀ a, a ≠ 1 → F' a = F a) (m : ∀ a, a ≠ 1 → a ≠ 2 → M' a = M a) (g : Gd c' (F 0) (M' 1)) : Wh c' F' M' := by
  obtain ⟨-, hh, hs, ht⟩ := h
  refine ⟨by rw [f 0 (by decide)]; exact g, Hs_frame hh hc (by rw [f 8 (by decide)]) (by rw [f 8 (by decide)]) (fun s _ => f _ (by omega)) (by rw [m 0 (by decide) (by decide)]) (m 3 (by decide) (by decide)), Sn_frame hs hc (by rw [f 8 (by decide)]) (f 2 (by decide)) (by rw [m 0 (by decide) (by decide)]) (m 4 (by decide) (by decide)), Tx_frame ht (f 7 (by decide)) (by rw [m 0 (by decide) (by decide)]) (m 5 (by decide) (by decide))⟩
theorem T_acc {c c' : Nat} {F : Nat → Nat → Nat → Int32} {M M2 M' X : Nat → Nat → Int32} {x : Int32} (h : Wh c F M) (hc : c ≤ c') (hx : 0 ≤ x) (a2 : Gd c (F 0) (M2 2)) (ma : ∀ a, a ≠ 1 → a ≠ 2 → M2 a = M a) (mb : ∀ a, a ≠ 1 → a ≠ 2 → M' a = C8_push M2 a) (g : Gd c' X (M' 1)) : (C7_accept (setF F 1 X) x).1 = x ∧ Wh c' (C7_accept (setF F 1 X) x).2 M' := by
  obtain ⟨-, hh, hs, ht⟩ := h
  have hh1 : Hs c (setF F 1 X) M2 := Hs_frame hh (Nat.le_refl c) (by rw [setF_ne (by decide)]) (by rw [setF_ne (by decide)]) (fun s _ => setF_ne (by omega)) (by rw [ma 0 (by decide) (by decide)]) (ma 3 (by decide) (by decide))
  have hi := Hs_hi hh1
  obtain ⟨k1, k2, k7, k8⟩ := kC1_record hi
  have hR := Hs_record hh1 (by rw [setF_ne (by decide)]; exact a2)
  obtain ⟨pf, pf0⟩ := push_fr (M := M2)
  unfold C7_accept
  rw [if_pos hx]
  try dsimp only
  refine ⟨rfl, ?_, ?_, ?_, ?_⟩
  · rw [setF_eq, k1, setF_eq]
    exact Gd_copy g (fun _ _ => rfl)
  · exact Hs_frame hR hc (by rw [setF_ne (by decide)]) (by rw [setF_ne (by decide)]) (fun s _ => setF_ne (by omega)) (by rw [mb 0 (by decide) (by decide)]) (mb 3 (by decide) (by decide))
  · exact Sn_frame hs hc (by rw [setF_ne (by decide), k8, setF_ne (by decide)]) (by rw [setF_ne (by decide), k2, setF_ne (by decide)]) (by rw [mb 0 (by decide) (by decide), pf0 1 (by decide), ma 0 (by decide) (by decide)]) (by rw [mb 4 (by decide) (by decide), pf 4 (by decide) (by decide), ma 4 (by decide) (by decide)])
  · exact Tx_frame ht (by rw [setF_ne (by decide), k7, setF_ne (by decide)]) (by rw [mb 0 (by decide) (by decide), pf0 2 (by decide), ma 0 (by decide) (by decide)]) (by rw [mb 5 (by decide) (by decide), pf 5 (by decide) (by decide), ma 5 (by decide) (by decide)])
/-- a trial is taken over or dropped -/
theorem T_rec {c c' : Nat} {F : Nat → Nat → Nat → Int32} {M M2 X : Nat → Nat → Int32} {x : Int32} (h : Wh c F M) (hc : c ≤ c') (a2 : Gd c (F 0) (M2 2)) (ma : ∀ a, a ≠ 1 → a ≠ 2 → M2 a = M a) (g : 0 ≤ x → Gd c' X (M2 1)) (g2 : x < 0 → Gd c' (F 0) (M2 1)) : (C7_accept (setF F 1 X) x).1 = (C8_recorded M2 x).1 ∧ Wh c' (C7_accept (setF F 1 X) x).2 (C8_recorded M2 x).2 := by
  by_cases z : x < 0
  · have e1 : C7_accept (setF F 1 X) x = (x, setF F 1 X) := by
      unfold C7_accept
      rw [if_neg (Int32.not_le.mpr z)]
    have e2 : C8_recorded M2 x = (x, M2) := by
      unfold C8_recorded
      rw [if_pos z]
    rw [e1, e2]
    exact ⟨rfl, Wh_frame h hc (fun a ha => setF_ne ha) ma (g2 z)⟩
  · have z' : 0 ≤ x := Int32.not_lt.mp z
    have e2 : C8_recorded M2 x = (x, C8_push M2) := by
      unfold C8_recorded
      rw [if_neg z]
    rw [e2]
    exact T_acc h hc z' a2 ma (fun _ _ _ => rfl) (by
      show Gd c' X (C8_push M2 1)
      rw [push_fr.1 1 (by decide) (by decide)]
      exact g z')
/-- the state put aside -/
theorem pa_at (M : Nat → Nat → Int32) : (∀ a, a ≠ 2 → C8_putAside M a = M a) ∧ ∀ j, j < 719 → C8_putAside M 2 j = M 1 j := by
  unfold C8_putAside
  refine ⟨fun a ha => setC_ne ha, fun j hj => ?_⟩
  rw [setC_eq]
  exact if_pos hj
