/-! changes under way as a list of (time, signal), in the order in which they were made; a ring that is sorted by their times -/
/-- the place behind the last one that is not later than t -/
def posE (t : Nat) : List (Nat × Nat) → Nat
  | [] => 0
  | y :: l => if posE t l = 0 ∧ t < y.1 then 0 else posE t l + 1
def insE (x : Nat × Nat) (l : List (Nat × Nat)) : List (Nat × Nat) := l.take (posE x.1 l) ++ x :: l.drop (posE x.1 l)
/-- sorted by times, those of one time in the order in which they were made: the last one made is put in last -/
def isoR : List (Nat × Nat) → List (Nat × Nat)
  | [] => []
  | x :: r => insE x (isoR r)
def isoS (l : List (Nat × Nat)) : List (Nat × Nat) := isoR l.reverse
theorem isoS_snoc (l : List (Nat × Nat)) (x : Nat × Nat) : isoS (l ++ [x]) = insE x (isoS l) := by
  unfold isoS
  rw [List.reverse_append]
  rfl
theorem posE_le (t : Nat) : ∀ l : List (Nat × Nat), posE t l ≤ l.length
  | [] => Nat.le_refl 0
  | y :: l => by
    have := posE_le t l
    show (if posE t l = 0 ∧ t < y.1 then 0 else posE t l + 1) ≤ l.length + 1
    split
    · omega
    · omega
theorem insE_le {x y : Nat × Nat} {l : List (Nat × Nat)} (h : y.1 ≤ x.1) : insE x (y :: l) = y :: insE x l := by
  have e : posE x.1 (y :: l) = posE x.1 l + 1 := if_neg (by omega)
  unfold insE
  rw [e]
  rfl
theorem posE_all {t : Nat} : ∀ {l : List (Nat × Nat)}, (∀ y ∈ l, t < y.1) → posE t l = 0
  | [], _ => rfl
  | y :: l, h => if_pos ⟨posE_all (fun z hz => h z (List.mem_cons_of_mem _ hz)), h y List.mem_cons_self⟩
theorem insE_lt {x : Nat × Nat} {l : List (Nat × Nat)} (h : ∀ y ∈ l, x.1 < y.1) : insE x l = x :: l := by
  unfold insE
  rw [posE_all h]
  rfl
theorem insE_len (x : Nat × Nat) (l : List (Nat × Nat)) : (insE x l).length = l.length + 1 := by
  have := posE_le x.1 l
  unfold insE
  simp only [List.length_append, List.length_cons, List.length_take, List.length_drop]
  omega
theorem insE_mem {x y : Nat × Nat} {l : List (Nat × Nat)} : y ∈ insE x l ↔ y = x ∨ y ∈ l := by
  unfold insE
  constructor
  · intro h
    rcases List.mem_append.mp h with h | h
    · exact Or.inr (List.mem_of_mem_take h)
    · rcases List.mem_cons.mp h with h | h
      · exact Or.inl h
      · exact Or.inr (List.mem_of_mem_drop h)
  · intro h
    rw [List.mem_append, List.mem_cons]
    rcases h with h | h
    · exact Or.inr (Or.inl h)
    · rw [← List.take_append_drop (posE x.1 l) l] at h
      rcases List.mem_append.mp h with h | h
      · exact Or.inl h
      · exact Or.inr (Or.inr h)
theorem isoR_mem {y : Nat × Nat} : ∀ {r : List (Nat × Nat)}, y ∈ isoR r ↔ y ∈ r
  | [] => Iff.rfl
  | x :: r => by
    show y ∈ insE x (isoR r) ↔ y ∈ x :: r
    rw [insE_mem, List.mem_cons, isoR_mem]
theorem isoS_mem {y : Nat × Nat} {l : List (Nat × Nat)} : y ∈ isoS l ↔ y ∈ l := by
  unfold isoS
  rw [isoR_mem, List.mem_reverse]
theorem isoR_len : ∀ r : List (Nat × Nat), (isoR r).length = r.length
  | [] => rfl
  | x :: r => by
    show (insE x (isoR r)).length = r.length + 1
    rw [insE_len, isoR_len r]
theorem isoS_len (l : List (Nat × Nat)) : (isoS l).length = l.length := by
  unfold isoS
  rw [isoR_len, List.length_reverse]
/-- the first of the earliest ones stands ahead of all -/
theorem isoS_min (A B : List (Nat × Nat)) (x : Nat × Nat) (hA : ∀ y ∈ A, x.1 < y.1) (hB : ∀ y ∈ B, x.1 ≤ y.1) : isoS (A ++ x :: B) = x :: isoS (A ++ B) := by
  have key : ∀ R : List (Nat × Nat), (∀ y ∈ R, x.1 ≤ y.1) → isoR (R ++ x :: A.reverse) = x :: isoR (R ++ A.reverse) := by
    intro R
    induction R with
    | nil =>
      intro _
      show insE x (isoR A.reverse) = x :: isoR A.reverse
      exact insE_lt (fun y hy => hA y (by rw [isoR_mem, List.mem_reverse] at hy; exact hy))
    | cons y R ih =>
      intro h
      show insE y (isoR (R ++ x :: A.reverse)) = x :: insE y (isoR (R ++ A.reverse))
      rw [ih (fun z hz => h z (List.mem_cons_of_mem _ hz))]
      exact insE_le (h y List.mem_cons_self)
  unfold isoS
  rw [List.reverse_append, List.reverse_append, List.reverse_cons, List.append_assoc]
  exact key B.reverse (fun y hy => hB y (List.mem_reverse.mp hy))
/-! the ring -/
/-- p is the place behind the last of the first n numbers R that is not greater than t -/
def isP (t : Nat) (R : Nat → Nat) (n p : Nat) : Prop := p ≤ n ∧ (∀ j, p ≤ j → j < n → t < R j) ∧ (p = 0 ∨ R (p - 1) ≤ t)
theorem isP_uniq {t : Nat} {R : Nat → Nat} {n p q : Nat} (hp : isP t R n p) (hq : isP t R n q) : p = q := by
  obtain ⟨p1, p2, p3⟩ := hp
  obtain ⟨q1, q2, q3⟩ := hq
  rcases Nat.lt_trichotomy p q with h | h | h
  · have := p2 (q - 1) (by omega) (by omega)
    omega
  · exact h
  · have := q2 (p - 1) (by omega) (by omega)
    omega
theorem posE_isP (t : Nat) : ∀ l : List (Nat × Nat), isP t (fun j => (l.getD j (0, 0)).1) l.length (posE t l)
  | [] => ⟨Nat.le_refl 0, fun j _ h => absurd h (Nat.not_lt_zero j), Or.inl rfl⟩
  | y :: l => by
    obtain ⟨h1, h2, h3⟩ := posE_isP t l
    have e : posE t (y :: l) = if posE t l = 0 ∧ t < y.1 then 0 else posE t l + 1 := rfl
    by_cases c : posE t l = 0 ∧ t < y.1
    · rw [e, if_pos c]
      refine ⟨Nat.zero_le _, ?_, Or.inl rfl⟩
      intro j _ hj
      cases j with
      | zero => exact c.2
      | succ j =>
        have := h2 j (by omega) (by simpa using hj)
        simpa using this
    · rw [e, if_neg c]
      refine ⟨by simp only [List.length_cons]; omega, ?_, Or.inr ?_⟩
      · intro j hj hl
        cases j with
        | zero => omega
        | succ j =>
          have := h2 j (by omega) (by simpa using hl)
          simpa using this
      · rcases h3 with h3 | h3
        · rw [h3]
          show y.1 ≤ t
          omega
        · by_cases z : posE t l = 0
          · rw [z]; show y.1 ≤ t; omega
          · obtain ⟨r, hr⟩ : ∃ r, posE t l = r + 1 := ⟨posE t l - 1, by omega⟩
            rw [hr] at h3 ⊢
            simpa using h3
theorem insE_get {x : Nat × Nat} {l : List (Nat × Nat)} {i : Nat} : (insE x l).getD i (0, 0) = if i < posE x.1 l then l.getD i (0, 0) else if i = posE x.1 l then x else l.getD (i - 1) (0, 0) := by
  have hp := posE_le x.1 l
  unfold insE
  rw [List.getD_eq_getElem?_getD, List.getElem?_append, List.length_take, Nat.min_eq_left hp]
  by_cases h : i < posE x.1 l
  · rw [if_pos h, if_pos h, List.getElem?_take_of_lt h, List.getD_eq_getElem?_getD]
  · rw [if_neg h, if_neg h]
    by_cases h2 : i = posE x.1 l
    · rw [if_pos h2, h2, Nat.sub_self]; rfl
    · rw [if_neg h2]
      obtain ⟨r, hr⟩ : ∃ r, i - posE x.1 l = r + 1 := ⟨i - posE x.1 l - 1, by omega⟩
      rw [hr, List.getElem?_cons_succ, List.getElem?_drop, List.getD_eq_getElem?_getD]
      congr 2
      omega
theorem insL_spec (h t : Nat) (ht : t < 2 ^ 31) : ∀ (q : Nat) (T G : Nat → Int32) (R : Nat → Nat), q < 64 → (∀ i, i < q → T ((h + i) % 64) = nI (R i) ∧ R i < 2 ^ 31) →
    ∃ (T' G' : Nat → Int32) (p : Nat), insL h (nI t) q T G = (T', G', p) ∧ isP t R q p ∧ (∀ i, i < 64 → T' ((h + i) % 64) = if p < i ∧ i ≤ q then T ((h + (i - 1)) % 64) else T ((h + i) % 64)) ∧ (∀ i, i < 64 → G' ((h + i) % 64) = if p < i ∧ i ≤ q then G ((h + (i - 1)) % 64) else G ((h + i) % 64)) := by
  intro q
  induction q with
  | zero =>
    intro T G R _ _
    exact ⟨T, G, 0, rfl, ⟨Nat.le_refl 0, fun j _ h => absurd h (Nat.not_lt_zero j), Or.inl rfl⟩, fun i _ => (if_neg (by omega)).symm, fun i _ => (if_neg (by omega)).symm⟩
  | succ q ih =>
    intro T G R hq hR
    have e0 : (h + (q + 1)) - 1 = h + q := by omega
    have hRq := hR q (by omega)
    show ∃ (T' G' : Nat → Int32) (p : Nat), (if (T (((h + (q + 1)) - 1) % 64)) ≤ nI t then (T, G, q + 1) else insL h (nI t) q (upd T ((h + (q + 1)) % 64) (T (((h + (q + 1)) - 1) % 64))) (upd G ((h + (q + 1)) % 64) (G (((h + (q + 1)) - 1) % 64)))) = (T', G', p) ∧ _
    rw [e0, hRq.1]
    by_cases c : R q ≤ t
    · rw [if_pos ((nI_leI hRq.2 ht).mpr c)]
      exact ⟨T, G, q + 1, rfl, ⟨Nat.le_refl _, fun j h1 h2 => by omega, Or.inr c⟩, fun i _ => (if_neg (by omega)).symm, fun i _ => (if_neg (by omega)).symm⟩
    · rw [if_neg (fun z => c ((nI_leI hRq.2 ht).mp z)), ← hRq.1]
      obtain ⟨T', G', p, h1, h2, h3, h4⟩ := ih (upd T ((h + (q + 1)) % 64) (T ((h + q) % 64))) (upd G ((h + (q + 1)) % 64) (G ((h + q) % 64))) R (by omega) (fun i hi => by
        have : (h + i) % 64 ≠ (h + (q + 1)) % 64 := by omega
        show (if (h + i) % 64 = (h + (q + 1)) % 64 then _ else _) = _ ∧ _
        rw [if_neg this]
        exact hR i (by omega))
      refine ⟨T', G', p, h1, ⟨Nat.le_succ_of_le h2.1, fun j j1 j2 => ?_, h2.2.2⟩, ?_, ?_⟩
      · rcases Nat.lt_or_ge j q with z | z
        · exact h2.2.1 j j1 z
        · have : j = q := by omega
          subst this; omega
      · intro i hi
        rw [h3 i hi]
        have up : ∀ j, upd T ((h + (q + 1)) % 64) (T ((h + q) % 64)) j = if j = (h + (q + 1)) % 64 then T ((h + q) % 64) else T j := fun j => rfl
        rw [up, up]
        have hp := h2.1
        by_cases ci : i = q + 1
        · subst ci
          rw [if_neg (by omega), if_pos rfl, if_pos (by omega)]
          rfl
        · rw [if_neg (show ¬ (h + i) % 64 = (h + (q + 1)) % 64 by omega)]
          by_cases c2 : p < i ∧ i ≤ q
          · rw [if_pos c2, if_neg (show ¬ (h + (i - 1)) % 64 = (h + (q + 1)) % 64 by omega), if_pos (by omega)]
          · rw [if_neg c2, if_neg (by omega)]
      · intro i hi
        rw [h4 i hi]
        have up : ∀ j, upd G ((h + (q + 1)) % 64) (G ((h + q) % 64)) j = if j = (h + (q + 1)) % 64 then G ((h + q) % 64) else G j := fun j => rfl
        rw [up, up]
        have hp := h2.1
        by_cases ci : i = q + 1
        · subst ci
          rw [if_neg (by omega), if_pos rfl, if_pos (by omega)]
          rfl
        · rw [if_neg (show ¬ (h + i) % 64 = (h + (q + 1)) % 64 by omega)]
          by_cases c2 : p < i ∧ i ≤ q
          · rw [if_pos c2, if_neg (show ¬ (h + (i - 1)) % 64 = (h + (q + 1)) % 64 by omega), if_pos (by omega)]
          · rw [if_neg c2, if_neg (by omega)]
/-- the class's ring holds the changes sorted -/
def ringL (V : Nat → Nat → Int32) (L : List (Nat × Nat)) : Prop :=
  L.length ≤ 64 ∧ (∀ x ∈ L, x.1 < 2 ^ 31 ∧ x.2 < 2 ^ 31) ∧ V 4 1 = nI L.length ∧ ∃ h, h < 64 ∧ V 4 0 = nI h ∧ ∀ i, i < L.length → V 5 ((h + i) % 64) = nI ((isoS L).getD i (0, 0)).1 ∧ V 6 ((h + i) % 64) = nI ((isoS L).getD i (0, 0)).2
theorem getD_mem {l : List (Nat × Nat)} {i : Nat} (h : i < l.length) : l.getD i (0, 0) ∈ l := by
  rw [List.getD_eq_getElem?_getD, List.getElem?_eq_getElem h]
  exact List.getElem_mem h
theorem ring_of {V V' : Nat → Nat → Int32} {L : List (Nat × Nat)} (h : ringL V L) (h4 : V' 4 = V 4) (h5 : V' 5 = V 5) (h6 : V' 6 = V 6) : ringL V' L := by
  obtain ⟨a, b, c, hh, d, e, f⟩ := h
  exact ⟨a, b, by rw [h4]; exact c, hh, d, by rw [h4]; exact e, fun i hi => by rw [h5, h6]; exact f i hi⟩
theorem ring_insert {V : Nat → Nat → Int32} {L : List (Nat × Nat)} (h : ringL V L) (hl : L.length < 64) {t k w v : Nat} (ht : t < 2 ^ 31) (hs : ((k * 3 + w) * 32) + v < 2 ^ 31) : ringL (chS V (C0_insert (chU V) (nI t) k w (nI v))) (L ++ [(t, ((k * 3 + w) * 32) + v)]) := by
  obtain ⟨h1, h2, h3, hd, h4, h5, h6⟩ := h
  have e0 : tN (V 4 0) = hd := by rw [h5]; exact tN_nI (by omega)
  have e1 : tN (V 4 1) = L.length := by rw [h3]; exact tN_nI (by omega)
  obtain ⟨T', G', p, i1, i2, i3, i4⟩ := insL_spec hd t ht L.length (V 5) (V 6) (fun j => ((isoS L).getD j (0, 0)).1) hl (fun i hi => ⟨(h6 i hi).1, (h2 _ (isoS_mem.mp (getD_mem (by rw [isoS_len]; exact hi)))).1⟩)
  have hp : p = posE t (isoS L) := isP_uniq i2 (by have := posE_isP t (isoS L); rw [isoS_len] at this; exact this)
  have eI : C0_insert (chU V) (nI t) k w (nI v) = C0_insF (chU V) (nI t) k w (nI v) (T', G', p) := by
    unfold C0_insert
    rw [if_pos (show V 4 1 < nI 64 by rw [h3]; exact (nI_ltI (by omega) (by decide)).mpr hl)]
    show C0_insF _ _ _ _ _ (insL (tN (V 4 0)) (nI t) (tN (V 4 1)) (V 5) (V 6)) = _
    rw [e0, e1, i1]
  rw [eI]
  have el : (L ++ [(t, ((k * 3 + w) * 32) + v)]).length = L.length + 1 := by simp
  have hp1 := i2.1
  refine ⟨by rw [el]; omega, ?_, ?_, hd, h4, ?_, ?_⟩
  · intro x hx
    rcases List.mem_append.mp hx with q | q
    · exact h2 x q
    · rw [List.mem_singleton.mp q]; exact ⟨ht, hs⟩
  · show V 4 1 + nI 1 = _
    rw [h3, nI_add, el]
  · exact h5
  · intro i hi
    rw [el] at hi
    rw [isoS_snoc, insE_get]
    show (upd T' ((tN (V 4 0) + p) % 64) (nI t)) ((hd + i) % 64) = _ ∧ (upd G' ((tN (V 4 0) + p) % 64) (nI (((k * 3) + w) * 32) + nI v)) ((hd + i) % 64) = _
    rw [e0, ← hp, nI_add]
    show (if (hd + i) % 64 = (hd + p) % 64 then nI t else T' ((hd + i) % 64)) = _ ∧ (if (hd + i) % 64 = (hd + p) % 64 then nI (((k * 3) + w) * 32 + v) else G' ((hd + i) % 64)) = _
    by_cases c : i = p
    · subst c
      rw [if_pos rfl, if_pos rfl, if_neg (Nat.lt_irrefl _), if_pos rfl]
      exact ⟨rfl, rfl⟩
    · have cm : ¬ (hd + i) % 64 = (hd + p) % 64 := by omega
      rw [if_neg cm, if_neg cm, i3 i (by omega), i4 i (by omega)]
      by_cases c2 : i < p
      · have c9 : ¬ (p < i ∧ i ≤ L.length) := by omega
        rw [if_neg c9, if_neg c9, if_pos c2]
        exact h6 i (by omega)
      · have c9 : p < i ∧ i ≤ L.length := by omega
        rw [if_pos c9, if_pos c9, if_neg c2, if_neg c]
        exact h6 (i - 1) (by omega)
/-- the first change leaves the ring -/
theorem ring_remove {V : Nat → Nat → Int32} {A B : List (Nat × Nat)} {x : Nat × Nat} (h : ringL V (A ++ x :: B)) (hA : ∀ y ∈ A, x.1 < y.1) (hB : ∀ y ∈ B, x.1 ≤ y.1) : ringL (chS V (C0_removeFirst (chU V))) (A ++ B) := by
  obtain ⟨h1, h2, h3, hd, h4, h5, h6⟩ := h
  have el : (A ++ x :: B).length = (A ++ B).length + 1 := by simp; omega
  have e0 : tN (V 4 0) = hd := by rw [h5]; exact tN_nI (by omega)
  have eR : C0_removeFirst (chU V) = up1 (up1 (chU V) 0 0 (nI ((hd + 1) % 64))) 0 1 (V 4 1 - nI 1) := by
    unfold C0_removeFirst
    rw [if_neg (show ¬ V 4 1 ≤ 0 by rw [h3, nI_le0 (by omega)]; omega)]
    dsimp only
    show up1 (up1 (chU V) 0 0 (nI ((tN (V 4 0) + 1) % 64))) 0 1 (V 4 1 - nI 1) = _
    rw [e0]
  rw [eR]
  rw [isoS_min A B x hA hB] at h6
  refine ⟨by omega, fun y hy => h2 y ?_, ?_, (hd + 1) % 64, Nat.mod_lt _ (by decide), rfl, ?_⟩
  · rcases List.mem_append.mp hy with q | q
    · exact List.mem_append_left _ q
    · exact List.mem_append_right _ (List.mem_cons_of_mem _ q)
  · show V 4 1 - nI 1 = _
    rw [h3, el, pk_sub (by omega)]
    rfl
  · intro i hi
    have := h6 (i + 1) (by omega)
    rw [show ((hd + 1) % 64 + i) % 64 = (hd + (i + 1)) % 64 by omega]
    exact this
theorem ring_first {V : Nat → Nat → Int32} {A B : List (Nat × Nat)} {x : Nat × Nat} (h : ringL V (A ++ x :: B)) (hA : ∀ y ∈ A, x.1 < y.1) (hB : ∀ y ∈ B, x.1 ≤ y.1) : V 5 (tN (V 4 0)) = nI x.1 ∧ V 6 (tN (V 4 0)) = nI x.2 := by
  obtain ⟨h1, h2, h3, hd, h4, h5, h6⟩ := h
  have e0 : tN (V 4 0) = hd := by rw [h5]; exact tN_nI (by omega)
  rw [isoS_min A B x hA hB] at h6
  have := h6 0 (by simp; omega)
  rw [Nat.add_zero, Nat.mod_eq_of_lt h4] at this
  rw [e0]
  exact this
