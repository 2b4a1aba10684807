/-! what holds of a line all the time -/
def S7 (f : Nat → Nat) : Nat := f 0 + f 1 + f 2 + f 3 + f 4 + f 5 + f 6
theorem S7_one {f g : Nat → Nat} {a : Nat} (ha : a < 7) (h : ∀ i, i < 7 → i ≠ a → g i = f i) : S7 g + f a = S7 f + g a := by
  unfold S7
  have h0 := h 0 (by decide)
  have h1 := h 1 (by decide)
  have h2 := h 2 (by decide)
  have h3 := h 3 (by decide)
  have h4 := h 4 (by decide)
  have h5 := h 5 (by decide)
  have h6 := h 6 (by decide)
  rcases (show a = 0 ∨ a = 1 ∨ a = 2 ∨ a = 3 ∨ a = 4 ∨ a = 5 ∨ a = 6 by omega) with rfl | rfl | rfl | rfl | rfl | rfl | rfl <;> omega
theorem S7_two {f g : Nat → Nat} {a b : Nat} (ha : a < 7) (hb : b < 7) (hab : a ≠ b) (h : ∀ i, i < 7 → i ≠ a → i ≠ b → g i = f i) : S7 g + f a + f b = S7 f + g a + g b := by
  have h1 := S7_one (f := f) (g := fun i => if i = a then g a else f i) ha (fun i hi hne => if_neg hne)
  have h2 := S7_one (f := fun i => if i = a then g a else f i) (g := g) hb (fun i hi hne => by
    by_cases c : i = a
    · show g i = if i = a then g a else f i
      rw [if_pos c, c]
    · show g i = if i = a then g a else f i
      rw [if_neg c]; exact h i hi c hne)
  have e1 : (if a = a then g a else f a) = g a := if_pos rfl
  have e2 : (if b = a then g a else f b) = f b := if_neg (fun z => hab z.symm)
  rw [e1] at h1
  rw [e2] at h2
  omega
theorem S7_eq {f g : Nat → Nat} (h : ∀ i, i < 7 → g i = f i) : S7 g = S7 f := by
  unfold S7
  rw [h 0 (by decide), h 1 (by decide), h 2 (by decide), h 3 (by decide), h 4 (by decide), h 5 (by decide), h 6 (by decide)]
theorem S7_le {f : Nat → Nat} {b : Nat} (h : ∀ i, i < 7 → f i ≤ b) : S7 f ≤ 7 * b := by
  unfold S7
  have h0 := h 0 (by decide)
  have h1 := h 1 (by decide)
  have h2 := h 2 (by decide)
  have h3 := h 3 (by decide)
  have h4 := h 4 (by decide)
  have h5 := h 5 (by decide)
  have h6 := h 6 (by decide)
  omega
theorem S7_mem {f : Nat → Nat} {a : Nat} (ha : a < 7) : f a ≤ S7 f := by
  unfold S7
  rcases (show a = 0 ∨ a = 1 ∨ a = 2 ∨ a = 3 ∨ a = 4 ∨ a = 5 ∨ a = 6 by omega) with rfl | rfl | rfl | rfl | rfl | rfl | rfl <;> omega
/-- the changes of the request and the answer of a link; the times of those of its data, the latest made ahead -/
def hsL (k : Nat) (L : List (Nat × Nat)) : List (Nat × Nat) := L.filter (fun x => decide (x.2 / 96 = k ∧ x.2 / 32 % 3 ≠ 2))
def daL (k : Nat) (L : List (Nat × Nat)) : List (Nat × Nat) := L.filter (fun x => decide (x.2 / 96 = k ∧ x.2 / 32 % 3 = 2))
def dts (k : Nat) (L : List (Nat × Nat)) : List Nat := ((daL k L).reverse).map Prod.fst
theorem hs_one {k t w v k' : Nat} (hw : w < 3) (hv : v < 32) : (decide ((sgn_ k' w v) / 96 = k ∧ (sgn_ k' w v) / 32 % 3 ≠ 2) = true ↔ (k' = k ∧ w ≠ 2)) ∧ (decide ((sgn_ k' w v) / 96 = k ∧ (sgn_ k' w v) / 32 % 3 = 2) = true ↔ (k' = k ∧ w = 2)) := by
  obtain ⟨d1, d2, d3⟩ := sig_dec (k := k') hw hv
  have d1 : (sgn_ k' w v) / 96 = k' := d1
  have d2 : (sgn_ k' w v) / 32 % 3 = w := d2
  rw [d1, d2, decide_eq_true_eq, decide_eq_true_eq]
  exact ⟨Iff.rfl, Iff.rfl⟩
theorem hs_snoc {L : List (Nat × Nat)} {k t w v k' : Nat} (hw : w < 3) (hv : v < 32) : hsL k (L ++ [(t, sgn_ k' w v)]) = if k' = k ∧ w ≠ 2 then hsL k L ++ [(t, sgn_ k' w v)] else hsL k L := by
  have h := (@hs_one k t w v k' hw hv).1
  unfold hsL
  rw [List.filter_append, List.filter_cons]
  by_cases c : k' = k ∧ w ≠ 2
  · rw [if_pos c, if_pos (h.mpr c)]; rfl
  · rw [if_neg c, if_neg (fun z => c (h.mp z)), List.filter_nil, List.append_nil]
theorem dt_snoc {L : List (Nat × Nat)} {k t w v k' : Nat} (hw : w < 3) (hv : v < 32) : dts k (L ++ [(t, sgn_ k' w v)]) = if k' = k ∧ w = 2 then t :: dts k L else dts k L := by
  have h := (@hs_one k t w v k' hw hv).2
  unfold dts daL
  rw [List.filter_append, List.filter_cons]
  by_cases c : k' = k ∧ w = 2
  · rw [if_pos c, if_pos (h.mpr c), List.filter_nil, List.reverse_append]; rfl
  · rw [if_neg c, if_neg (fun z => c (h.mp z)), List.filter_nil, List.append_nil]
theorem hs_pop {A B : List (Nat × Nat)} {k t w v k' : Nat} (hw : w < 3) (hv : v < 32) : hsL k (A ++ (t, sgn_ k' w v) :: B) = if k' = k ∧ w ≠ 2 then hsL k A ++ (t, sgn_ k' w v) :: hsL k B else hsL k (A ++ B) := by
  have h := (@hs_one k t w v k' hw hv).1
  unfold hsL
  rw [List.filter_append, List.filter_cons]
  by_cases c : k' = k ∧ w ≠ 2
  · rw [if_pos c, if_pos (h.mpr c)]
  · rw [if_neg c, if_neg (fun z => c (h.mp z)), List.filter_append]
theorem dt_sub {A B : List (Nat × Nat)} {x : Nat × Nat} {k : Nat} : (dts k (A ++ B)).Sublist (dts k (A ++ x :: B)) := by
  unfold dts daL
  refine List.Sublist.map _ (List.Sublist.reverse (List.Sublist.filter _ ?_))
  exact List.Sublist.append (List.Sublist.refl A) (List.sublist_cons_self x B)
theorem dt_len {A B : List (Nat × Nat)} {k t w v k' : Nat} (hw : w < 3) (hv : v < 32) : (dts k (A ++ (t, sgn_ k' w v) :: B)).length = (dts k (A ++ B)).length + if k' = k ∧ w = 2 then 1 else 0 := by
  have h := (@hs_one k t w v k' hw hv).2
  unfold dts daL
  rw [List.length_map, List.length_map, List.length_reverse, List.length_reverse, List.filter_append, List.filter_append, List.filter_cons, List.length_append, List.length_append]
  by_cases c : k' = k ∧ w = 2
  · rw [if_pos c, if_pos (h.mpr c), List.length_cons]; omega
  · rw [if_neg c, if_neg (fun z => c (h.mp z))]; omega
/-- times that lie four ticks apart at least, from a bound on -/
def dk (B : Nat) : Nat → List Nat → Prop
  | _, [] => True
  | i, d :: l => d + 4 * i ≤ B ∧ dk B (i + 1) l
theorem dk_mono {B B' : Nat} (hb : B ≤ B') : ∀ {l : List Nat} {i : Nat}, dk B i l → dk B' i l
  | [], _, _ => trivial
  | d :: l, i, h => ⟨Nat.le_trans h.1 hb, dk_mono hb h.2⟩
theorem dk_shift {B B' : Nat} (hb : B + 4 ≤ B') : ∀ {l : List Nat} {i : Nat}, dk B i l → dk B' (i + 1) l
  | [], _, _ => trivial
  | d :: l, i, h => ⟨by have := h.1; omega, dk_shift hb h.2⟩
theorem dk_low {B : Nat} : ∀ {l : List Nat} {i : Nat}, dk B (i + 1) l → dk B i l
  | [], _, _ => trivial
  | d :: l, i, h => ⟨by have := h.1; omega, dk_low h.2⟩
theorem dk_sub {B : Nat} {l l' : List Nat} (hs : l'.Sublist l) : ∀ {i : Nat}, dk B i l → dk B i l' := by
  induction hs with
  | slnil => intro i _; trivial
  | cons a _ ih => intro i h; exact dk_low (ih h.2)
  | cons_cons a _ ih => intro i h; exact ⟨h.1, ih h.2⟩
theorem dk_len {B lo : Nat} : ∀ {l : List Nat} {i : Nat}, dk B i l → (∀ d ∈ l, lo ≤ d) → l ≠ [] → lo + 4 * (i + l.length - 1) ≤ B
  | [], _, _, _, h => absurd rfl h
  | [d], i, h, hl, _ => by
    have h1 := h.1
    have h2 := hl d List.mem_cons_self
    show lo + 4 * (i + 1 - 1) ≤ B
    omega
  | d :: e :: l, i, h, hl, _ => by
    have := dk_len h.2 (fun x hx => hl x (List.mem_cons_of_mem _ hx)) (by simp)
    show lo + 4 * (i + (l.length + 1 + 1) - 1) ≤ B
    have e1 : (e :: l).length = l.length + 1 := rfl
    rw [e1] at this
    omega
theorem dts_ge {k t : Nat} {L : List (Nat × Nat)} (h : ∀ x ∈ L, t ≤ x.1) : ∀ d ∈ dts k L, t ≤ d := by
  intro d hd
  unfold dts daL at hd
  obtain ⟨x, hx, rfl⟩ := List.mem_map.mp hd
  exact h x (List.mem_filter.mp (List.mem_reverse.mp hx)).1
theorem dts_6 {k t : Nat} {L : List (Nat × Nat)} (h : dk (t + 20) 0 (dts k L)) (hl : ∀ x ∈ L, t ≤ x.1) : (dts k L).length ≤ 6 := by
  by_cases c : dts k L = []
  · rw [c]; decide
  · have := dk_len h (dts_ge hl) c
    omega
/-- all changes are of some link -/
theorem len_7 : ∀ {L : List (Nat × Nat)}, (∀ x ∈ L, x.2 / 96 < 7) → L.length = S7 (fun k => (hsL k L).length) + S7 (fun k => (dts k L).length)
  | [], _ => rfl
  | x :: L, h => by
    have ih := len_7 (L := L) (fun y hy => h y (List.mem_cons_of_mem _ hy))
    have hx := h x List.mem_cons_self
    have e1 : ∀ k, (hsL k (x :: L)).length = (hsL k L).length + if x.2 / 96 = k ∧ x.2 / 32 % 3 ≠ 2 then 1 else 0 := fun k => by
      unfold hsL
      rw [List.filter_cons]
      by_cases c : x.2 / 96 = k ∧ x.2 / 32 % 3 ≠ 2
      · rw [if_pos (decide_eq_true c), if_pos c]; rfl
      · rw [if_neg (fun z => c (of_decide_eq_true z)), if_neg c]; rfl
    have e2 : ∀ k, (dts k (x :: L)).length = (dts k L).length + if x.2 / 96 = k ∧ x.2 / 32 % 3 = 2 then 1 else 0 := fun k => by
      unfold dts daL
      rw [List.length_map, List.length_map, List.length_reverse, List.length_reverse, List.filter_cons]
      by_cases c : x.2 / 96 = k ∧ x.2 / 32 % 3 = 2
      · rw [if_pos (decide_eq_true c), if_pos c]; rfl
      · rw [if_neg (fun z => c (of_decide_eq_true z)), if_neg c]; rfl
    have s1 := S7_one (f := fun k => (hsL k L).length) (g := fun k => (hsL k (x :: L)).length) hx (fun i _ hne => by
      show (hsL i (x :: L)).length = _
      rw [e1, if_neg (fun z => hne z.1.symm)]; rfl)
    have s2 := S7_one (f := fun k => (dts k L).length) (g := fun k => (dts k (x :: L)).length) hx (fun i _ hne => by
      show (dts i (x :: L)).length = _
      rw [e2, if_neg (fun z => hne z.1.symm)]; rfl)
    have t1 := e1 (x.2 / 96)
    have t2 := e2 (x.2 / 96)
    show L.length + 1 = _
    by_cases c : x.2 / 32 % 3 = 2
    · rw [if_neg (fun z => z.2 c)] at t1
      rw [if_pos ⟨rfl, c⟩] at t2
      try dsimp only at s1 s2
      omega
    · rw [if_pos ⟨rfl, c⟩] at t1
      rw [if_neg (fun z => c z.2)] at t2
      try dsimp only at s1 s2
      omega
/-- the ways of a link: 0 at rest, 1 the request 1 is under way, 2 it waits, 3 the answer 1, 4 the request 0, 5 the answer 0 is under way -/
def bd (p a t : Nat) : Nat := if p = 0 then t + 16 else if p = 2 then t + 19 else if p = 1 then a + 19 else if p = 3 then a + 18 else if p = 4 then a + 17 else a + 16
def hsg (k p : Nat) : Nat := sgn_ k (if p = 1 ∨ p = 4 then 0 else 1) (if p = 1 ∨ p = 3 then 1 else 0)
def LkI (V : Nat → Nat → Int32) (L : List (Nat × Nat)) (t k p : Nat) : Prop := p < 6 ∧ V (11 + k) 6 = nI (if p = 0 then 1 else 0) ∧ V (11 + k) 7 = nI (if p = 2 then 1 else 0) ∧ ∃ a, hsL k L = (if p = 0 ∨ p = 2 then [] else [(a, hsg k p)]) ∧ dk (t + 20) 0 (dts k L) ∧ dk (bd p a t) 0 (dts k L)
theorem LkI_frame {V V' : Nat → Nat → Int32} {L L' : List (Nat × Nat)} {t t' k p : Nat} (h : LkI V L t k p) (h6 : V' (11 + k) 6 = V (11 + k) 6) (h7 : V' (11 + k) 7 = V (11 + k) 7) (hh : hsL k L' = hsL k L) (hd : (dts k L').Sublist (dts k L)) (ht : t ≤ t') : LkI V' L' t' k p := by
  obtain ⟨a, b, c, x, d, e, f⟩ := h
  refine ⟨a, by rw [h6]; exact b, by rw [h7]; exact c, x, by rw [hh]; exact d, dk_mono (by omega) (dk_sub hd e), dk_mono ?_ (dk_sub hd f)⟩
  unfold bd
  split
  · omega
  · split
    · omega
    · exact Nat.le_refl _
/-- whether the stage ahead of a link is full -/
def fu (V : Nat → Nat → Int32) (k : Nat) : Nat := if 0 < k ∧ V 2 (k - 1) ≠ (-1) then 1 else 0
def pwt (p f : Nat) : Nat := if p = 1 ∨ p = 2 then 1 else if p = 4 ∨ p = 5 then f else 0
def hwt (nS k p f : Nat) : Nat := if p = 1 then 4 + 5 * (nS - k) else if p = 2 then 3 + 5 * (nS - k) else if p = 3 then 3 else if p = 4 then 2 + (if f = 0 then 0 else 5 * (nS + 1 - k)) else if p = 5 then 1 + (if f = 0 then 0 else 5 * (nS + 1 - k)) else 0
def Vals (V : Nat → Nat → Int32) (nS t : Nat) : Prop := 1 ≤ nS ∧ nS ≤ 6 ∧ V 0 0 = nI nS ∧ V 0 1 = nI t ∧ (∃ le, le ≤ 20 ∧ V 1 0 = nI le) ∧ (∃ th, th ≤ 20 ∧ V 1 1 = nI th) ∧ (∀ k, k < 7 → ∀ w, w < 3 → ∃ d, 1 ≤ d ∧ d ≤ 20 ∧ V (18 + k) w = nI d) ∧ ∀ k, k < 7 → ∃ w, w < 32 ∧ V (11 + k) 5 = nI w
def Lst (L : List (Nat × Nat)) (nS t : Nat) : Prop := ∀ x ∈ L, t ≤ x.1 ∧ x.1 ≤ t + 40 ∧ x.2 / 96 ≤ nS
def StgN (nS : Nat) (ph f : Nat → Nat) : Prop := (∀ k, k < nS → (ph (k + 1) = 0 → f (k + 1) = 0) ∧ (1 ≤ ph (k + 1) → ph (k + 1) ≤ 3 → f (k + 1) = 1) ∧ (ph k = 2 → f (k + 1) = 1)) ∧ ph nS ≠ 2 ∧ (∀ k, nS < k → k < 7 → ph k = 0 ∧ f k = 0) ∧ f 0 = 0 ∧ ∀ k, k < 7 → f k ≤ 1
def Stg (V : Nat → Nat → Int32) (nS : Nat) (ph : Nat → Nat) : Prop := StgN nS ph (fu V)
def Inv (V : Nat → Nat → Int32) (L : List (Nat × Nat)) (n p nS t : Nat) (ph : Nat → Nat) (cap : Nat) : Prop := Vals V nS t ∧ Lst L nS t ∧ (∀ k, k < 7 → LkI V L t k (ph k)) ∧ Stg V nS ph ∧ p = S7 (fun k => pwt (ph k) (fu V k)) ∧ n + p + wtN V ≤ cap
def mu (V : Nat → Nat → Int32) (L : List (Nat × Nat)) (nS : Nat) (ph : Nat → Nat) : Nat := 5 * (nS + 1) * wtN V + S7 (fun k => (dts k L).length) + S7 (fun k => hwt nS k (ph k) (fu V k))
theorem fu_le (V : Nat → Nat → Int32) (k : Nat) : fu V k ≤ 1 := by unfold fu; split <;> decide
theorem pwt_le (p : Nat) {f : Nat} (h : f ≤ 1) : pwt p f ≤ 1 := by
  unfold pwt
  split
  · exact Nat.le_refl 1
  · split
    · exact h
    · exact Nat.zero_le 1
theorem inv_p {V : Nat → Nat → Int32} {L : List (Nat × Nat)} {n p nS t cap : Nat} {ph : Nat → Nat} (h : Inv V L n p nS t ph cap) : p ≤ 7 := by
  rw [h.2.2.2.2.1]
  exact S7_le (b := 1) (fun i _ => pwt_le _ (fu_le V i))
theorem inv_len {V : Nat → Nat → Int32} {L : List (Nat × Nat)} {n p nS t cap : Nat} {ph : Nat → Nat} (h : Inv V L n p nS t ph cap) : L.length ≤ 49 := by
  obtain ⟨h1, h2, h3, -⟩ := h
  have e := len_7 (L := L) (fun x hx => by have := (h2 x hx).2.2; have := h1.2.1; omega)
  have a : S7 (fun k => (hsL k L).length) ≤ 7 * 1 := S7_le (fun i hi => by
    obtain ⟨-, -, -, x, d, -⟩ := h3 i hi
    show (hsL i L).length ≤ 1
    rw [d]
    split
    · exact Nat.zero_le 1
    · exact Nat.le_refl 1)
  have b : S7 (fun k => (dts k L).length) ≤ 7 * 6 := S7_le (fun i hi => by
    obtain ⟨-, -, -, x, -, d, -⟩ := h3 i hi
    exact dts_6 d (fun x hx => (h2 x hx).1))
  omega
