/-! what binds a line of the class and the state of the reference -/
/-- the single numbers, by component and place, and where the reference keeps them -/
abbrev DM (c i : Nat) : Prop := (c = 0 ∧ (i = 0 ∨ i = 1 ∨ i = 2 ∨ i = 4)) ∨ (c = 1 ∧ i < 3) ∨ (c = 7 ∧ i < 2) ∨ (11 ≤ c ∧ c < 18 ∧ i < 9) ∨ (18 ≤ c ∧ c < 25 ∧ i < 3) ∨ ((c = 27 ∨ c = 28) ∧ i = 0)
def ps (c i : Nat) : Nat :=
  if c = 0 then (if i = 0 then 3 else if i = 1 then 4 else if i = 2 then 8 else 7)
  else if c = 1 then i
  else if c = 7 then 5 + i
  else if c < 18 then (if i < 6 then 34 + 6 * (c - 11) + i else if i = 6 then 76 + (c - 11) else if i = 7 then 83 + (c - 11) else 90 + (c - 11))
  else if c < 25 then 13 + 3 * (c - 18) + i
  else 11 + (c - 27)
def pv (j : Nat) : Nat × Nat :=
  if j < 3 then (1, j) else if j = 3 then (0, 0) else if j = 4 then (0, 1) else if j = 5 then (7, 0) else if j = 6 then (7, 1) else if j = 7 then (0, 4) else if j = 8 then (0, 2) else if j < 13 then (j + 16, 0) else if j < 34 then (18 + (j - 13) / 3, (j - 13) % 3) else if j < 76 then (11 + (j - 34) / 6, (j - 34) % 6) else if j < 83 then (11 + (j - 76), 6) else if j < 90 then (11 + (j - 83), 7) else (11 + (j - 90), 8)
theorem DM_lt {c i : Nat} (h : DM c i) : c < 29 ∧ i < 9 := by
  unfold DM at h; omega
theorem pv_all : (List.range 29).all (fun c => (List.range 9).all (fun i => !(decide (DM c i)) || (decide (pv (ps c i) = (c, i)) && (decide (ps c i < 97) && (decide (ps c i ≠ 9) && decide (ps c i ≠ 10)))))) = true := by decide +kernel
theorem pv_ps' (c : Nat) (hc : c < 29) (i : Nat) (hi : i < 9) (h : DM c i) : pv (ps c i) = (c, i) ∧ ps c i < 97 ∧ ps c i ≠ 9 ∧ ps c i ≠ 10 := by
  have h1 := List.all_eq_true.mp (List.all_eq_true.mp pv_all c (List.mem_range.mpr hc)) i (List.mem_range.mpr hi)
  rw [decide_eq_true h] at h1
  simp only [Bool.not_true, Bool.false_or, Bool.and_eq_true, decide_eq_true_eq] at h1
  exact h1
theorem pv_ps {c i : Nat} (h : DM c i) : pv (ps c i) = (c, i) := (pv_ps' c (DM_lt h).1 i (DM_lt h).2 h).1
theorem ps_rng {c i : Nat} (h : DM c i) : ps c i < 97 ∧ ps c i ≠ 9 ∧ ps c i ≠ 10 := (pv_ps' c (DM_lt h).1 i (DM_lt h).2 h).2
theorem ps_inj {c i c' i' : Nat} (h : DM c i) (h' : DM c' i') (e : ps c i = ps c' i') : c = c' ∧ i = i' := by
  have h1 := pv_ps h
  rw [e, pv_ps h'] at h1
  exact ⟨(congrArg Prod.fst h1).symm, (congrArg Prod.snd h1).symm⟩
theorem up1_at {V : Nat → Nat → Int32} {c i c' j : Nat} {x : Int32} : up1 V c i x c' j = if c' = c ∧ j = i then x else V c' j := by
  show setC V c (upd (V c) i x) c' j = _
  by_cases h : c' = c
  · subst h
    rw [setC_eq]
    by_cases h2 : j = i
    · rw [if_pos ⟨rfl, h2⟩]; exact if_pos h2
    · rw [if_neg (fun z => h2 z.2)]; exact if_neg h2
  · rw [setC_ne h, if_neg (fun z => h z.1)]
theorem upM {M : Nat → Nat → Int32} {i : Nat} {x : Int32} : up1 M 1 i x 1 = upd (M 1) i x := setC_eq M 1 _
theorem upd_at {f : Nat → Int32} {i j : Nat} {x : Int32} : upd f i x j = if j = i then x else f j := rfl
def Esc (V : Nat → Nat → Int32) (m : Nat → Int32) : Prop := ∀ c i, DM c i → V c i = m (ps c i)
theorem E_up {V : Nat → Nat → Int32} {m : Nat → Int32} {c i : Nat} {x : Int32} (h : Esc V m) (hd : DM c i) : Esc (up1 V c i x) (upd m (ps c i) x) := by
  intro c' i' hd'
  rw [up1_at, upd_at]
  by_cases e : c' = c ∧ i' = i
  · obtain ⟨rfl, rfl⟩ := e
    rw [if_pos ⟨rfl, rfl⟩, if_pos rfl]
  · rw [if_neg e, if_neg (fun z => e (ps_inj hd' hd z))]
    exact h c' i' hd'
theorem E_V {V V' : Nat → Nat → Int32} {m : Nat → Int32} (h : Esc V m) (hv : ∀ c i, DM c i → V' c i = V c i) : Esc V' m := fun c i hd => (hv c i hd).trans (h c i hd)
theorem E_m {V : Nat → Nat → Int32} {m m' : Nat → Int32} (h : Esc V m) (hm : ∀ j, j < 97 → j ≠ 9 → j ≠ 10 → m' j = m j) : Esc V m' := fun c i hd => by
  have := ps_rng hd
  rw [hm _ this.1 this.2.1 this.2.2]
  exact h c i hd
theorem E_set {V : Nat → Nat → Int32} {m : Nat → Int32} {c : Nat} {g : Nat → Int32} (h : Esc V m) (hc : ∀ i, ¬ DM c i) : Esc (setC V c g) m := E_V h (fun c' i hd => by rw [setC_ne (fun e => hc i (by rw [← e]; exact hd))])
/-- the stages' words -/
def Hld (V : Nat → Nat → Int32) (m : Nat → Int32) : Prop := ∀ i, i < 6 → (V 2 i = (-1) ∧ m (97 + i) = nI 0) ∨ ∃ w, w < 32 ∧ V 2 i = nI w ∧ m (97 + i) = nI 1 ∧ m (103 + i) = nI w
/-- the words that wait -/
def Rws (V : Nat → Nat → Int32) (m : Nat → Int32) : Prop := ∀ s, s < 2 → ∃ n, n < 21 ∧ V (27 + s) 0 = nI n ∧ ∀ j, j < n → ∃ w, w < 16 ∧ V (25 + s) j = nI w ∧ m (109 + 20 * s + j) = nI w
/-- what was offered and not noted: p of them -/
def Pnd (V : Nat → Nat → Int32) (m : Nat → Int32) (n p : Nat) : Prop := p < 8 ∧ n + p < 2 ^ 30 ∧ V 7 0 = nI n ∧ V 0 3 = nI (n + p) ∧ m 9 = nI p ∧ ∀ j, j < p → V 3 ((n + j) % 8) = m (149 + j)
/-- what was noted -/
def Nts (V : Nat → Nat → Int32) (m : Nat → Int32) (n : Nat) : Prop := ∀ r, r < n → r < 50 → V 8 ((n - 1 - r) % 50) = m (169 + 3 * r) ∧ V 9 ((n - 1 - r) % 50) = m (170 + 3 * r) ∧ V 10 ((n - 1 - r) % 50) = m (171 + 3 * r)
/-- all of it: n words noted, p offered and not noted -/
def Rel (V : Nat → Nat → Int32) (m : Nat → Int32) (L : List (Nat × Nat)) (n p : Nat) : Prop := Esc V m ∧ ringL V L ∧ listM m L ∧ Hld V m ∧ Rws V m ∧ Pnd V m n p ∧ Nts V m n
theorem Hld_of {V V' : Nat → Nat → Int32} {m m' : Nat → Int32} (h : Hld V m) (hv : V' 2 = V 2) (hm : ∀ j, 97 ≤ j → j < 109 → m' j = m j) : Hld V' m' := fun i hi => by
  rw [hv, hm (97 + i) (by omega) (by omega), hm (103 + i) (by omega) (by omega)]; exact h i hi
theorem Rws_of {V V' : Nat → Nat → Int32} {m m' : Nat → Int32} (h : Rws V m) (h5 : V' 25 = V 25) (h6 : V' 26 = V 26) (h7 : V' 27 0 = V 27 0) (h8 : V' 28 0 = V 28 0) (hm : ∀ j, 109 ≤ j → j < 149 → m' j = m j) : Rws V' m' := fun s hs => by
  obtain ⟨n, h1, h2, h3⟩ := h s hs
  have e7 : V' (27 + s) 0 = V (27 + s) 0 := by
    match s, hs with
    | 0, _ => exact h7
    | 1, _ => exact h8
  have e5 : V' (25 + s) = V (25 + s) := by
    match s, hs with
    | 0, _ => exact h5
    | 1, _ => exact h6
  refine ⟨n, h1, by rw [e7]; exact h2, fun j hj => ?_⟩
  rw [e5, hm _ (by omega) (by omega)]
  exact h3 j hj
theorem Pnd_of {V V' : Nat → Nat → Int32} {m m' : Nat → Int32} {n p : Nat} (h : Pnd V m n p) (h7 : V' 7 0 = V 7 0) (h0 : V' 0 3 = V 0 3) (h3 : V' 3 = V 3) (h9 : m' 9 = m 9) (hm : ∀ j, 149 ≤ j → j < 169 → m' j = m j) : Pnd V' m' n p := by
  obtain ⟨a, b, c, d, e, f⟩ := h
  exact ⟨a, b, by rw [h7]; exact c, by rw [h0]; exact d, by rw [h9]; exact e, fun j hj => by rw [h3, hm _ (by omega) (by omega)]; exact f j hj⟩
theorem Nts_of {V V' : Nat → Nat → Int32} {m m' : Nat → Int32} {n : Nat} (h : Nts V m n) (h8 : V' 8 = V 8) (h9 : V' 9 = V 9) (h10 : V' 10 = V 10) (hm : ∀ j, 169 ≤ j → j < 319 → m' j = m j) : Nts V' m' n := fun r hr h50 => by
  rw [h8, h9, h10, hm _ (by omega) (by omega), hm _ (by omega) (by omega), hm _ (by omega) (by omega)]
  exact h r hr h50
/-- a single number changes on both sides -/
theorem R_up {V : Nat → Nat → Int32} {m : Nat → Int32} {L : List (Nat × Nat)} {n p c i : Nat} {x : Int32} (h : Rel V m L n p) (hd : DM c i) (hc : c ≠ 27 ∧ c ≠ 28 ∧ (c = 7 → i ≠ 0)) : Rel (up1 V c i x) (upd m (ps c i) x) L n p := by
  obtain ⟨h1, h2, h3, h4, h5, h6, h7⟩ := h
  have hr := ps_rng hd
  have hcd : c ≠ 2 ∧ c ≠ 3 ∧ c ≠ 4 ∧ c ≠ 5 ∧ c ≠ 6 ∧ c ≠ 8 ∧ c ≠ 9 ∧ c ≠ 10 ∧ c ≠ 25 ∧ c ≠ 26 := by unfold DM at hd; omega
  have hv : ∀ c', c' ≠ c → up1 V c i x c' = V c' := fun c' e => setC_ne e
  have hm : ∀ j, j ≠ ps c i → upd m (ps c i) x j = m j := fun j e => if_neg e
  refine ⟨E_up h1 hd, ring_of h2 (hv 4 (by omega)) (hv 5 (by omega)) (hv 6 (by omega)), listM_of h3 (hm 10 (by omega)) (fun j hj => hm j (by omega)), Hld_of h4 (hv 2 (by omega)) (fun j a b => hm j (by omega)), Rws_of h5 (hv 25 (by omega)) (hv 26 (by omega)) (by rw [hv 27 (by omega)]) (by rw [hv 28 (by omega)]) (fun j a b => hm j (by omega)), Pnd_of h6 ?_ ?_ (hv 3 (by omega)) (hm 9 (by omega)) (fun j a b => hm j (by omega)), Nts_of h7 (hv 8 (by omega)) (hv 9 (by omega)) (hv 10 (by omega)) (fun j a b => hm j (by omega))⟩
  · rw [up1_at]; exact if_neg (fun z => hc.2.2 z.1.symm z.2.symm)
  · rw [up1_at]; exact if_neg (fun z => by unfold DM at hd; omega)
/-- a change is made on both sides -/
theorem R_make {V M : Nat → Nat → Int32} {L : List (Nat × Nat)} {n p t k w v : Nat} {x y : Int32} (h : Rel V (M 1) L n p) (hl : L.length < 64) (hk : k < 7) (hw : w < 3) (hv : v < 32) (ht : t < 2 ^ 31) (hy : y = nI t) (hx : (M 1 4 + M 1 ((13 + (3 * k)) + w)) + x = nI t) : Rel (chS V (C0_insert (chU V) y k w (nI v))) (C8_make M k w (nI v) x 1) (L ++ [(t, ((k * 3 + w) * 32) + v)]) n p := by
  subst hy
  obtain ⟨h1, h2, h3, h4, h5, h6, h7⟩ := h
  obtain ⟨g1, g2⟩ := list_make h3 (by omega) hw hv hx
  have hV : ∀ c, c ≠ 4 → c ≠ 5 → c ≠ 6 → chS V (C0_insert (chU V) (nI t) k w (nI v)) c = V c := fun c a b d => by show setC (setC (setC V 4 _) 5 _) 6 _ c = V c; rw [setC_ne d, setC_ne b, setC_ne a]
  have hm : ∀ j, j ≠ 10 → j < 319 → C8_make M k w (nI v) x 1 j = M 1 j := g2
  refine ⟨E_m (E_V h1 (fun c i hd => by rw [hV c (by unfold DM at hd; omega) (by unfold DM at hd; omega) (by unfold DM at hd; omega)])) (fun j a b c => hm j c (by omega)), ring_insert h2 hl ht (by omega), g1, Hld_of h4 (hV 2 (by decide) (by decide) (by decide)) (fun j a b => hm j (by omega) (by omega)), Rws_of h5 (hV 25 (by decide) (by decide) (by decide)) (hV 26 (by decide) (by decide) (by decide)) (by rw [hV 27 (by decide) (by decide) (by decide)]) (by rw [hV 28 (by decide) (by decide) (by decide)]) (fun j a b => hm j (by omega) (by omega)), Pnd_of h6 (by rw [hV 7 (by decide) (by decide) (by decide)]) (by rw [hV 0 (by decide) (by decide) (by decide)]) (hV 3 (by decide) (by decide) (by decide)) (hm 9 (by decide) (by decide)) (fun j a b => hm j (by omega) (by omega)), Nts_of h7 (hV 8 (by decide) (by decide) (by decide)) (hV 9 (by decide) (by decide) (by decide)) (hV 10 (by decide) (by decide) (by decide)) (fun j a b => hm j (by omega) (by omega))⟩
theorem ps_lk {k f : Nat} (hk : k < 7) (hf : f < 6) : ps (11 + k) f = (34 + (6 * k)) + f ∧ DM (11 + k) f := by
  refine ⟨?_, by unfold DM; omega⟩
  unfold ps
  rw [if_neg (by omega), if_neg (by omega), if_neg (by omega), if_pos (by omega), if_pos hf]
  omega
theorem ps_rest {k : Nat} (hk : k < 7) : ps (11 + k) 6 = 76 + k ∧ DM (11 + k) 6 := by
  refine ⟨?_, by unfold DM; omega⟩
  unfold ps
  rw [if_neg (by omega), if_neg (by omega), if_neg (by omega), if_pos (by omega), if_neg (by decide), if_pos rfl]
  omega
theorem ps_wait {k : Nat} (hk : k < 7) : ps (11 + k) 7 = 83 + k ∧ DM (11 + k) 7 := by
  refine ⟨?_, by unfold DM; omega⟩
  unfold ps
  rw [if_neg (by omega), if_neg (by omega), if_neg (by omega), if_pos (by omega), if_neg (by decide), if_neg (by decide), if_pos rfl]
  omega
theorem ps_off {k : Nat} (hk : k < 7) : ps (11 + k) 8 = 90 + k ∧ DM (11 + k) 8 := by
  refine ⟨?_, by unfold DM; omega⟩
  unfold ps
  rw [if_neg (by omega), if_neg (by omega), if_neg (by omega), if_pos (by omega), if_neg (by decide), if_neg (by decide), if_neg (by decide)]
  omega
theorem ps_del {k w : Nat} (hk : k < 7) (hw : w < 3) : ps (18 + k) w = (13 + (3 * k)) + w ∧ DM (18 + k) w := by
  refine ⟨?_, by unfold DM; omega⟩
  unfold ps
  rw [if_neg (by omega), if_neg (by omega), if_neg (by omega), if_neg (by omega), if_pos (by omega)]
  omega
theorem R_end {V M : Nat → Nat → Int32} {L : List (Nat × Nat)} {n p k f : Nat} {x : Int32} (h : Rel V (M 1) L n p) (hk : k < 7) (hf : f < 6) : Rel (up1 V (11 + k) f x) (C8_setEnd M k f x 1) L n p := by
  have e : C8_setEnd M k f x 1 = upd (M 1) ((34 + (6 * k)) + f) x := upM
  rw [e, ← (ps_lk hk hf).1]
  exact R_up h (ps_lk hk hf).2 (by omega)
theorem R_rest {V M : Nat → Nat → Int32} {L : List (Nat × Nat)} {n p k : Nat} {x : Int32} (h : Rel V (M 1) L n p) (hk : k < 7) : Rel (up1 V (11 + k) 6 x) (up1 M 1 (76 + k) x 1) L n p := by
  rw [upM, ← (ps_rest hk).1]
  exact R_up h (ps_rest hk).2 (by omega)
theorem R_wait {V M : Nat → Nat → Int32} {L : List (Nat × Nat)} {n p k : Nat} {x : Int32} (h : Rel V (M 1) L n p) (hk : k < 7) : Rel (up1 V (11 + k) 7 x) (up1 M 1 (83 + k) x 1) L n p := by
  rw [upM, ← (ps_wait hk).1]
  exact R_up h (ps_wait hk).2 (by omega)
theorem R_off {V M : Nat → Nat → Int32} {L : List (Nat × Nat)} {n p k : Nat} {x : Int32} (h : Rel V (M 1) L n p) (hk : k < 7) : Rel (up1 V (11 + k) 8 x) (up1 M 1 (90 + k) x 1) L n p := by
  rw [upM, ← (ps_off hk).1]
  exact R_up h (ps_off hk).2 (by omega)
theorem R_eq {V M : Nat → Nat → Int32} {L : List (Nat × Nat)} {n p c i : Nat} (h : Rel V (M 1) L n p) (hd : DM c i) : V c i = M 1 (ps c i) := h.1 c i hd
theorem R_t {V M : Nat → Nat → Int32} {L : List (Nat × Nat)} {n p : Nat} (h : Rel V (M 1) L n p) : V 0 1 = M 1 4 := h.1 0 1 (by decide)
theorem R_d {V M : Nat → Nat → Int32} {L : List (Nat × Nat)} {n p k w : Nat} (h : Rel V (M 1) L n p) (hk : k < 7) (hw : w < 3) : V (18 + k) w = M 1 ((13 + (3 * k)) + w) := by
  rw [← (ps_del hk hw).1]; exact h.1 _ _ (ps_del hk hw).2
