/-! one arrival keeps what holds of a line, and is one of those to come -/
theorem hs_ne {L : List (Nat × Nat)} {k t w v k' : Nat} (hw : w < 3) (hv : v < 32) (h : k' ≠ k) : hsL k (L ++ [(t, sgn_ k' w v)]) = hsL k L := by rw [hs_snoc hw hv, if_neg (fun z => h z.1)]
theorem dt_ne {L : List (Nat × Nat)} {k t w v k' : Nat} (hw : w < 3) (hv : v < 32) (h : k' ≠ k) : dts k (L ++ [(t, sgn_ k' w v)]) = dts k L := by rw [dt_snoc hw hv, if_neg (fun z => h z.1)]
theorem hs_da {L : List (Nat × Nat)} {k t v k' : Nat} (hv : v < 32) : hsL k (L ++ [(t, sgn_ k' 2 v)]) = hsL k L := by rw [hs_snoc (by decide) hv, if_neg (fun z => z.2 rfl)]
theorem dt_hs {L : List (Nat × Nat)} {k t w v k' : Nat} (hw : w < 2) (hv : v < 32) : dts k (L ++ [(t, sgn_ k' w v)]) = dts k L := by rw [dt_snoc (by omega) hv, if_neg (fun z => by omega)]
theorem hs_at {L : List (Nat × Nat)} {k t w v : Nat} (hw : w < 2) (hv : v < 32) : hsL k (L ++ [(t, sgn_ k w v)]) = hsL k L ++ [(t, sgn_ k w v)] := by rw [hs_snoc (by omega) hv, if_pos ⟨rfl, by omega⟩]
theorem dt_at {L : List (Nat × Nat)} {k t v : Nat} (hv : v < 32) : dts k (L ++ [(t, sgn_ k 2 v)]) = t :: dts k L := by rw [dt_snoc (by decide) hv, if_pos ⟨rfl, rfl⟩]
theorem lst_snoc {L : List (Nat × Nat)} {nS t a k w v : Nat} (h : Lst L nS t) (h1 : t ≤ a) (h2 : a ≤ t + 40) (hk : k ≤ nS) (hw : w < 3) (hv : v < 32) : Lst (L ++ [(a, sgn_ k w v)]) nS t := by
  intro x hx
  rcases List.mem_append.mp hx with q | q
  · exact h x q
  · rw [List.mem_singleton.mp q]
    have e : sgn_ k w v / 96 = k := (sig_dec (k := k) hw hv).1
    exact ⟨h1, h2, by show sgn_ k w v / 96 ≤ nS; rw [e]; exact hk⟩
theorem vals_of {V W : Nat → Nat → Int32} {nS t : Nat} (h : Vals W nS t) (hv : ∀ c i, VW c i → c ≠ 2 → ¬ (11 ≤ c ∧ c < 18 ∧ (i = 6 ∨ i = 7)) → c ≠ 27 → c ≠ 28 → V c i = W c i) : Vals V nS t := by
  obtain ⟨a, b, c, d, ⟨le, e1, e2⟩, ⟨th, f1, f2⟩, g, k⟩ := h
  refine ⟨a, b, by rw [hv 0 0 (by decide) (by decide) (by decide) (by decide) (by decide)]; exact c, by rw [hv 0 1 (by decide) (by decide) (by decide) (by decide) (by decide)]; exact d, ⟨le, e1, by rw [hv 1 0 (by decide) (by decide) (by decide) (by decide) (by decide)]; exact e2⟩, ⟨th, f1, by rw [hv 1 1 (by decide) (by decide) (by decide) (by decide) (by decide)]; exact f2⟩, fun j hj w hw => ?_, fun j hj => ?_⟩
  · obtain ⟨x, x1, x2, x3⟩ := g j hj w hw
    exact ⟨x, x1, x2, by rw [hv (18 + j) w (by unfold VW; omega) (by omega) (by omega) (by omega) (by omega)]; exact x3⟩
  · obtain ⟨x, x1, x2⟩ := k j hj
    exact ⟨x, x1, by rw [hv (11 + j) 5 (by unfold VW; omega) (by omega) (by omega) (by omega) (by omega)]; exact x2⟩
/-- what a line keeps to while the change of the link k0 that arrived isn't answered yet -/
def Mid (W : Nat → Nat → Int32) (L : List (Nat × Nat)) (n p nS t : Nat) (ph : Nat → Nat) (cap k0 : Nat) : Prop := Vals W nS t ∧ Lst L nS t ∧ (∀ k, k < 7 → k ≠ k0 → LkI W L t k (ph k)) ∧ Stg W nS ph ∧ p = S7 (fun k => pwt (ph k) (fu W k)) ∧ n + p + wtN W ≤ cap ∧ k0 ≤ nS ∧ W (11 + k0) 6 = nI 0 ∧ W (11 + k0) 7 = nI 0 ∧ hsL k0 L = [] ∧ dk (t + 20) 0 (dts k0 L) ∧ dk (bd (ph k0) t t) 0 (dts k0 L)
abbrev upN (f : Nat → Nat) (a x : Nat) : Nat → Nat := fun i => if i = a then x else f i
theorem upN_eq (f : Nat → Nat) (a x : Nat) : upN f a x a = x := if_pos rfl
theorem upN_ne {f : Nat → Nat} {a x i : Nat} (h : i ≠ a) : upN f a x i = f i := if_neg h
theorem fu_same {V W : Nat → Nat → Int32} (h : ∀ k, k < 6 → V 2 k = W 2 k) {i : Nat} (hi : i < 7) : fu V i = fu W i := by
  unfold fu
  by_cases c : 0 < i
  · rw [h (i - 1) (by omega)]
  · rw [if_neg (fun z => c z.1), if_neg (fun z => c z.1)]
theorem wt_same {V W : Nat → Nat → Int32} (h : V 27 0 = W 27 0) (h2 : V 28 0 = W 28 0) : wtN V = wtN W := by unfold wtN; rw [h, h2]
theorem vw2 (k : Nat) : VW 2 k := Or.inr (Or.inl rfl)
theorem stg1 {nS a x : Nat} {ph f : Nat → Nat} (h : StgN nS ph f) (ha : a ≤ nS) (h0 : x = 0 → f a = 0) (h1 : 1 ≤ x → x ≤ 3 → 0 < a → f a = 1) (h2 : x = 2 → a < nS ∧ f (a + 1) = 1) : StgN nS (upN ph a x) f := by
  obtain ⟨s1, s2, s3, s4, s5⟩ := h
  refine ⟨fun k hk => ?_, ?_, fun k x y => ⟨by rw [upN_ne (by omega)]; exact (s3 k x y).1, (s3 k x y).2⟩, s4, s5⟩
  · obtain ⟨o1, o2, o3⟩ := s1 k hk
    by_cases c : k + 1 = a
    · subst c
      rw [upN_eq, upN_ne (show k ≠ k + 1 by omega)]
      exact ⟨h0, fun q r => h1 q r (by omega), o3⟩
    · rw [upN_ne c]
      refine ⟨o1, o2, fun q => ?_⟩
      by_cases c2 : k = a
      · subst c2
        rw [upN_eq] at q
        exact (h2 q).2
      · rw [upN_ne c2] at q; exact o3 q
  · by_cases c : nS = a
    · rw [c, upN_eq]; intro q; have := (h2 q).1; omega
    · rw [upN_ne c]; exact s2
theorem stg2 {nS a : Nat} {ph f : Nat → Nat} (h : StgN nS ph f) (ha : a < nS) (hn : nS < 7) (h1 : 0 < a → f a = 1) (hq : ph (a + 1) ≠ 0) : StgN nS (upN ph a 3) (upN f (a + 1) 1) := by
  obtain ⟨s1, s2, s3, s4, s5⟩ := h
  refine ⟨fun k hk => ?_, ?_, fun k x y => ⟨by rw [upN_ne (by omega)]; exact (s3 k x y).1, by rw [upN_ne (by omega)]; exact (s3 k x y).2⟩, by rw [upN_ne (by omega)]; exact s4, fun k hk => ?_⟩
  · obtain ⟨o1, o2, o3⟩ := s1 k hk
    by_cases c : k = a
    · subst c
      rw [upN_eq (f := f), upN_ne (show k + 1 ≠ k by omega), upN_eq]
      exact ⟨fun q => absurd q hq, fun _ _ => rfl, fun q => absurd q (by decide)⟩
    · rw [upN_ne (show k + 1 ≠ a + 1 by omega), upN_ne (f := ph) c]
      by_cases c2 : k + 1 = a
      · subst c2
        rw [upN_eq]
        exact ⟨fun q => absurd q (by decide), fun _ _ => h1 (by omega), o3⟩
      · rw [upN_ne c2]
        exact ⟨o1, o2, o3⟩
  · rw [upN_ne (by omega)]; exact s2
  · by_cases c : k = a + 1
    · rw [c, upN_eq]; exact Nat.le_refl 1
    · rw [upN_ne c]; exact s5 k hk
theorem stg4 {nS a : Nat} {ph f : Nat → Nat} (h : StgN nS ph f) (ha : a < nS) (h2 : ph a ≠ 2) : StgN nS (upN ph (a + 1) 4) (upN f (a + 1) 0) := by
  obtain ⟨s1, s2, s3, s4, s5⟩ := h
  refine ⟨fun k hk => ?_, ?_, fun k x y => ⟨by rw [upN_ne (by omega)]; exact (s3 k x y).1, by rw [upN_ne (by omega)]; exact (s3 k x y).2⟩, by rw [upN_ne (by omega)]; exact s4, fun k hk => ?_⟩
  · obtain ⟨o1, o2, o3⟩ := s1 k hk
    by_cases c : k = a
    · subst c
      rw [upN_eq, upN_eq, upN_ne (show k ≠ k + 1 by omega)]
      exact ⟨fun _ => rfl, fun _ q => absurd q (by decide), fun q => absurd q h2⟩
    · rw [upN_ne (show k + 1 ≠ a + 1 by omega), upN_ne (show k + 1 ≠ a + 1 by omega)]
      refine ⟨o1, o2, fun q => ?_⟩
      by_cases c2 : k = a + 1
      · rw [c2, upN_eq] at q; exact absurd q (by decide)
      · rw [upN_ne c2] at q; exact o3 q
  · by_cases c : nS = a + 1
    · rw [c, upN_eq]; decide
    · rw [upN_ne c]; exact s2
  · by_cases c : k = a + 1
    · rw [c, upN_eq]; exact Nat.zero_le 1
    · rw [upN_ne c]; exact s5 k hk
theorem stg_eq {nS : Nat} {ph f g : Nat → Nat} (h : StgN nS ph f) (hn : nS < 7) (e : ∀ i, i < 7 → g i = f i) : StgN nS ph g := by
  obtain ⟨s1, s2, s3, s4, s5⟩ := h
  refine ⟨fun k hk => ?_, s2, fun k x y => by rw [e k y]; exact s3 k x y, by rw [e 0 (by decide)]; exact s4, fun k hk => by rw [e k hk]; exact s5 k hk⟩
  rw [e (k + 1) (by omega)]
  exact s1 k hk
/-- the end of each case: the line behind it, by its own words -/
theorem inv_end {V W : Nat → Nat → Int32} {L L' : List (Nat × Nat)} {n p n' p' nS t cap k0 : Nat} {ph ph' f' : Nat → Nat} (m : Mid W L n p nS t ph cap k0) (hn9 : n ≤ n') (hv : ∀ c i, VW c i → c ≠ 2 → ¬ (11 ≤ c ∧ c < 18 ∧ (i = 6 ∨ i = 7)) → c ≠ 27 → c ≠ 28 → V c i = W c i) (hl : Lst L' nS t) (hk : ∀ k, k < 7 → LkI V L' t k (ph' k)) (hf : ∀ i, i < 7 → fu V i = f' i) (hs : StgN nS ph' f') (hp : p' + S7 (fun k => pwt (ph k) (fu W k)) = p + S7 (fun k => pwt (ph' k) (f' k))) (hc : n' + p' + wtN V ≤ n + p + wtN W)
    (hm : 5 * (nS + 1) * wtN V + S7 (fun k => (dts k L').length) + S7 (fun k => hwt nS k (ph' k) (f' k)) + 1 = 5 * (nS + 1) * wtN W + S7 (fun k => (dts k L).length) + S7 (fun k => hwt nS k (ph k) (fu W k))) : Inv V L' n' p' nS t ph' cap ∧ mu V L' nS ph' + 1 = mu W L nS ph ∧ n ≤ n' := by
  have e1 : S7 (fun k => pwt (ph' k) (fu V k)) = S7 (fun k => pwt (ph' k) (f' k)) := S7_eq (fun i hi => by show pwt _ (fu V i) = _; rw [hf i hi])
  have e2 : S7 (fun k => hwt nS k (ph' k) (fu V k)) = S7 (fun k => hwt nS k (ph' k) (f' k)) := S7_eq (fun i hi => by show hwt _ _ _ (fu V i) = _; rw [hf i hi])
  refine ⟨⟨vals_of m.1 hv, hl, hk, stg_eq hs (by have := m.1.2.1; omega) hf, ?_, Nat.le_trans hc m.2.2.2.2.2.1⟩, ?_⟩
  · rw [e1]
    have := m.2.2.2.2.1
    omega
  · refine ⟨?_, hn9⟩
    unfold mu
    rw [e2]
    exact hm
theorem mid_k {W : Nat → Nat → Int32} {L : List (Nat × Nat)} {n p nS t cap k0 : Nat} {ph : Nat → Nat} (m : Mid W L n p nS t ph cap k0) : k0 < 7 := by
  have := m.1.2.1
  have := m.2.2.2.2.2.2.1
  omega
/-- the request 0: the answer 0 is made -/
theorem S_req0 {W M : Nat → Nat → Int32} {L : List (Nat × Nat)} {n p nS t cap k0 : Nat} {ph : Nat → Nat} (h : Rel W (M 1) L n p) (m : Mid W L n p nS t ph cap k0) (hp : ph k0 = 4) (hl : L.length ≤ 49) (htb : t < 2 ^ 30) :
    ∃ L' n' p' ph', Rel (C2_letRequestArrive W k0 (nI 0)) (C8_requestArrives M k0 (nI 0) 1) L' n' p' ∧ Inv (C2_letRequestArrive W k0 (nI 0)) L' n' p' nS t ph' cap ∧ mu (C2_letRequestArrive W k0 (nI 0)) L' nS ph' + 1 = mu W L nS ph ∧ n ≤ n' := by
  have hk7 := mid_k m
  obtain ⟨v, ls, lk, sg, pp, cp, k1, f6, f7, hs, d1, d2⟩ := id m
  obtain ⟨da, a1, a2, a3⟩ := v.2.2.2.2.2.2.1 k0 hk7 1 (by decide)
  obtain ⟨R, F⟩ := A_req0 h (by omega) hk7 v.2.2.2.1 a3 (by omega)
  have hw : wtN (C2_letRequestArrive W k0 (nI 0)) = wtN W := wt_same (F 27 0 (by decide)) (F 28 0 (by decide))
  refine ⟨L ++ [(t + da, sgn_ k0 1 0)], n, p, upN ph k0 5, R, inv_end m (by omega) (fun c i hc _ _ _ _ => F c i hc) (lst_snoc ls (by omega) (by omega) k1 (by decide) (by decide)) (fun k hk => ?_) (fun i hi => fu_same (fun k _ => F 2 k (vw2 k)) hi) (stg1 sg k1 (fun q => absurd q (by decide)) (fun _ q => absurd q (by decide)) (fun q => absurd q (by decide))) ?_ (by rw [hw]; omega) ?_⟩
  · by_cases c : k = k0
    · subst c
      rw [upN_eq]
      refine ⟨by decide, by rw [F _ _ (by unfold VW; omega)]; exact f6, by rw [F _ _ (by unfold VW; omega)]; exact f7, t + da, ?_, ?_, ?_⟩
      · rw [hs_at (by decide) (by decide), hs]; rfl
      · rw [dt_hs (by decide) (by decide)]; exact d1
      · rw [dt_hs (by decide) (by decide)]
        rw [hp] at d2
        exact dk_mono (show t + 17 ≤ t + da + 16 by omega) d2
    · rw [upN_ne c]
      exact LkI_frame (lk k hk c) (F _ _ (by unfold VW; omega)) (F _ _ (by unfold VW; omega)) (hs_ne (by decide) (by decide) (fun z => c z.symm)) (by rw [dt_ne (by decide) (by decide) (fun z => c z.symm)]; exact List.Sublist.refl _) (Nat.le_refl t)
  · have e : S7 (fun k => pwt (upN ph k0 5 k) (fu W k)) = S7 (fun k => pwt (ph k) (fu W k)) := S7_eq (fun i hi => by
      show pwt (upN ph k0 5 i) _ = pwt (ph i) _
      by_cases c : i = k0
      · rw [c, upN_eq, hp]; rfl
      · rw [upN_ne c])
    rw [e]
  · have e0 : S7 (fun k => (dts k (L ++ [(t + da, sgn_ k0 1 0)])).length) = S7 (fun k => (dts k L).length) := S7_eq (fun i hi => by show (dts i (L ++ [(t + da, sgn_ k0 1 0)])).length = _; rw [dt_hs (by decide) (by decide)])
    have e := S7_one (f := fun k => hwt nS k (ph k) (fu W k)) (g := fun k => hwt nS k (upN ph k0 5 k) (fu W k)) hk7 (fun i hi hne => by
      show hwt nS i (upN ph k0 5 i) _ = hwt nS i (ph i) _
      rw [upN_ne hne])
    have e1 : hwt nS k0 (ph k0) (fu W k0) = 2 + (if fu W k0 = 0 then 0 else 5 * (nS + 1 - k0)) := by rw [hp]; rfl
    have e2 : hwt nS k0 (upN ph k0 5 k0) (fu W k0) = 1 + (if fu W k0 = 0 then 0 else 5 * (nS + 1 - k0)) := by rw [upN_eq]; rfl
    rw [e1, e2] at e
    rw [hw, e0]
    omega
