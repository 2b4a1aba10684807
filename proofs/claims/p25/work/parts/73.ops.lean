/-! each step of a line, on both sides -/
theorem chS_ne {V U : Nat → Nat → Int32} {c : Nat} (h4 : c ≠ 4) (h5 : c ≠ 5) (h6 : c ≠ 6) : chS V U c = V c := by show setC (setC (setC V 4 _) 5 _) 6 _ c = V c; rw [setC_ne h6, setC_ne h5, setC_ne h4]
theorem up1_oi {V : Nat → Nat → Int32} {c i j : Nat} {x : Int32} (h : j ≠ i) : up1 V c i x c j = V c j := up1_in h
abbrev sgn_ (k w v : Nat) : Nat := ((k * 3 + w) * 32) + v
theorem R_req {V M : Nat → Nat → Int32} {L : List (Nat × Nat)} {n p k v e t d : Nat} (h : Rel V (M 1) L n p) (hl : L.length < 64) (hk : k < 7) (hv : v < 32) (ht : V 0 1 = nI t) (hd : V (18 + k) 0 = nI d) (hb : t + d + e < 2 ^ 31) : Rel (C2_makeRequest V k (nI v) (nI e)) (C8_make (C8_setEnd M k 0 (nI v)) k 0 (nI v) (nI e) 1) (L ++ [(t + d + e, sgn_ k 0 v)]) n p := by
  have a1 := R_end (f := 0) (x := nI v) h hk (by decide)
  have t1 : up1 V (11 + k) 0 (nI v) 0 1 = nI t := by rw [up1_ne (by omega)]; exact ht
  have d1 : up1 V (11 + k) 0 (nI v) (18 + k) 0 = nI d := by rw [up1_ne (by omega)]; exact hd
  refine R_make a1 hl hk (by decide) hv hb ?_ ?_
  · rw [t1, d1, nI_add, nI_add]
  · rw [← R_t a1, ← R_d a1 hk (by decide), t1, d1, nI_add, nI_add]
theorem R_answer {V M : Nat → Nat → Int32} {L : List (Nat × Nat)} {n p k v e t d : Nat} (h : Rel V (M 1) L n p) (hl : L.length < 64) (hk : k < 7) (hv : v < 32) (ht : V 0 1 = nI t) (hd : V (18 + k) 1 = nI d) (hb : t + d + e < 2 ^ 31) : Rel (C2_makeAnswer V k (nI v) (nI e)) (C8_answer M k (nI v) (nI e) 1) (L ++ [(t + d + e, sgn_ k 1 v)]) n p := by
  have a1 := R_end (f := 2) (x := nI v) h hk (by decide)
  have t1 : up1 V (11 + k) 2 (nI v) 0 1 = nI t := by rw [up1_ne (by omega)]; exact ht
  have d1 : up1 V (11 + k) 2 (nI v) (18 + k) 1 = nI d := by rw [up1_ne (by omega)]; exact hd
  refine R_make a1 hl hk (by decide) hv hb ?_ ?_
  · rw [t1, d1, nI_add, nI_add]
  · rw [← R_t a1, ← R_d a1 hk (by decide), t1, d1, nI_add, nI_add]
theorem R_offer {V M : Nat → Nat → Int32} {L : List (Nat × Nat)} {n p k w t dd dr le : Nat} (h : Rel V (M 1) L n p) (hl : L.length + 2 ≤ 64) (hk : k < 7) (hw : w < 32) (ht : V 0 1 = nI t) (hdd : V (18 + k) 2 = nI dd) (hdr : V (18 + k) 0 = nI dr) (hle : V 1 0 = nI le) (hb : t + dd + dr + le < 2 ^ 31) : Rel (C2_offer V k (nI w)) (C8_offer M k (nI w) 1) ((L ++ [(t + dd, sgn_ k 2 w)]) ++ [(t + dr + le, sgn_ k 0 1)]) n p := by
  obtain ⟨V1, e1⟩ : ∃ z, z = up1 V (11 + k) 4 (nI w) := ⟨_, rfl⟩
  have a1 : Rel V1 (C8_setEnd M k 4 (nI w) 1) L n p := by rw [e1]; exact R_end h hk (by decide)
  have t1 : V1 0 1 = nI t := by rw [e1, up1_ne (by omega)]; exact ht
  have d1 : V1 (18 + k) 2 = nI dd := by rw [e1, up1_ne (by omega)]; exact hdd
  have r1 : V1 (18 + k) 0 = nI dr := by rw [e1, up1_ne (by omega)]; exact hdr
  have l1 : V1 1 0 = nI le := by rw [e1, up1_ne (by omega)]; exact hle
  obtain ⟨V2, e2⟩ : ∃ z, z = chS V1 (C0_insert (chU V1) ((V1 0 1) + (V1 (18 + k) 2)) k 2 (nI w)) := ⟨_, rfl⟩
  have a2 : Rel V2 (C8_make (C8_setEnd M k 4 (nI w)) k 2 (nI w) (nI 0) 1) (L ++ [(t + dd, sgn_ k 2 w)]) n p := by
    rw [e2]
    refine R_make a1 (by omega) hk (by decide) hw (by omega) ?_ ?_
    · rw [t1, d1, nI_add]
    · rw [← R_t a1, ← R_d a1 hk (by decide), t1, d1, nI_add, nI_add]; rfl
  have f2 : ∀ c, c ≠ 4 → c ≠ 5 → c ≠ 6 → V2 c = V1 c := fun c a b d => by rw [e2]; exact chS_ne a b d
  have t2 : V2 0 1 = nI t := by rw [f2 0 (by decide) (by decide) (by decide)]; exact t1
  have r2 : V2 (18 + k) 0 = nI dr := by rw [f2 _ (by omega) (by omega) (by omega)]; exact r1
  have l2 : V2 1 0 = nI le := by rw [f2 1 (by decide) (by decide) (by decide)]; exact l1
  obtain ⟨V3, e3⟩ : ∃ z, z = C2_makeRequest V2 k (nI 1) (nI le) := ⟨_, rfl⟩
  obtain ⟨M2, m2⟩ : ∃ z, z = C8_make (C8_setEnd M k 4 (nI w)) k 2 (nI w) (nI 0) := ⟨_, rfl⟩
  rw [← m2] at a2
  have a3 : Rel V3 (C8_make (C8_setEnd M2 k 0 (nI 1)) k 0 (nI 1) (nI le) 1) ((L ++ [(t + dd, sgn_ k 2 w)]) ++ [(t + dr + le, sgn_ k 0 1)]) n p := by
    rw [e3]
    exact R_req a2 (by simp; omega) hk (by decide) t2 r2 (by omega)
  have ml : C8_setEnd M2 k 0 (nI 1) 1 0 = nI le := by
    have b1 := R_end (f := 0) (x := nI 1) a2 hk (by decide)
    have b2 : up1 V2 (11 + k) 0 (nI 1) 1 0 = C8_setEnd M2 k 0 (nI 1) 1 0 := R_eq b1 (c := 1) (i := 0) (by decide)
    rw [← b2, up1_ne (by omega)]
    exact l2
  obtain ⟨M4, m4⟩ : ∃ z, z = C8_make (C8_setEnd M2 k 0 (nI 1)) k 0 (nI 1) (nI le) := ⟨_, rfl⟩
  rw [← m4] at a3
  have a4 := R_rest (x := nI 0) a3 hk
  have a5 := R_off (x := up1 V3 (11 + k) 6 (nI 0) (11 + k) 8 + nI 1) a4 hk
  have eV : C2_offer V k (nI w) = up1 (up1 V3 (11 + k) 6 (nI 0)) (11 + k) 8 (up1 V3 (11 + k) 6 (nI 0) (11 + k) 8 + nI 1) := by
    rw [e3, ← l2, e2, e1]; rfl
  have eM : C8_offer M k (nI w) = up1 (up1 M4 1 (76 + k) (nI 0)) 1 (90 + k) (up1 M4 1 (76 + k) (nI 0) 1 (90 + k) + nI 1) := by
    rw [m4, ← ml, m2]; rfl
  rw [eV, eM]
  have eo : up1 M4 1 (76 + k) (nI 0) 1 (90 + k) = up1 V3 (11 + k) 6 (nI 0) (11 + k) 8 := by
    rw [R_eq a4 (ps_off hk).2, (ps_off hk).1]
  rw [eo]
  exact a5
/-! the stages' words -/
theorem R_hold {V M : Nat → Nat → Int32} {L : List (Nat × Nat)} {n p k w : Nat} (h : Rel V (M 1) L n p) (hk : k < 6) (hw : w < 32) : Rel (up1 V 2 k (nI w)) (up1 (up1 M 1 (97 + k) (nI 1)) 1 (103 + k) (nI w) 1) L n p := by
  obtain ⟨h1, h2, h3, h4, h5, h6, h7⟩ := h
  have hm : ∀ j, j ≠ 97 + k → j ≠ 103 + k → up1 (up1 M 1 (97 + k) (nI 1)) 1 (103 + k) (nI w) 1 j = M 1 j := fun j a b => by rw [up1_oi b, up1_oi a]
  have hv : ∀ c, c ≠ 2 → up1 V 2 k (nI w) c = V c := fun c e => setC_ne e
  refine ⟨E_m (E_set h1 (fun i hd => by unfold DM at hd; omega)) (fun j a b c => hm j (by omega) (by omega)), ring_of h2 (hv 4 (by decide)) (hv 5 (by decide)) (hv 6 (by decide)), listM_of h3 (hm 10 (by omega) (by omega)) (fun j hj => hm j (by omega) (by omega)), ?_, Rws_of h5 (hv 25 (by decide)) (hv 26 (by decide)) (by rw [hv 27 (by decide)]) (by rw [hv 28 (by decide)]) (fun j a b => hm j (by omega) (by omega)), Pnd_of h6 (by rw [hv 7 (by decide)]) (by rw [hv 0 (by decide)]) (hv 3 (by decide)) (hm 9 (by omega) (by omega)) (fun j a b => hm j (by omega) (by omega)), Nts_of h7 (hv 8 (by decide)) (hv 9 (by decide)) (hv 10 (by decide)) (fun j a b => hm j (by omega) (by omega))⟩
  intro i hi
  by_cases c : i = k
  · subst c
    exact Or.inr ⟨w, hw, up1_eq, by rw [up1_oi (by omega), up1_eq], up1_eq⟩
  · rw [up1_oi c, hm _ (by omega) (by omega), hm _ (by omega) (by omega)]
    exact h4 i hi
theorem R_empty {V M : Nat → Nat → Int32} {L : List (Nat × Nat)} {n p k : Nat} (h : Rel V (M 1) L n p) (hk : k < 6) : Rel (up1 V 2 k (-1)) (up1 M 1 (97 + k) (nI 0) 1) L n p := by
  obtain ⟨h1, h2, h3, h4, h5, h6, h7⟩ := h
  have hm : ∀ j, j ≠ 97 + k → up1 M 1 (97 + k) (nI 0) 1 j = M 1 j := fun j a => up1_oi a
  have hv : ∀ c, c ≠ 2 → up1 V 2 k (-1) c = V c := fun c e => setC_ne e
  refine ⟨E_m (E_set h1 (fun i hd => by unfold DM at hd; omega)) (fun j a b c => hm j (by omega)), ring_of h2 (hv 4 (by decide)) (hv 5 (by decide)) (hv 6 (by decide)), listM_of h3 (hm 10 (by omega)) (fun j hj => hm j (by omega)), ?_, Rws_of h5 (hv 25 (by decide)) (hv 26 (by decide)) (by rw [hv 27 (by decide)]) (by rw [hv 28 (by decide)]) (fun j a b => hm j (by omega)), Pnd_of h6 (by rw [hv 7 (by decide)]) (by rw [hv 0 (by decide)]) (hv 3 (by decide)) (hm 9 (by omega)) (fun j a b => hm j (by omega)), Nts_of h7 (hv 8 (by decide)) (hv 9 (by decide)) (hv 10 (by decide)) (fun j a b => hm j (by omega))⟩
  intro i hi
  by_cases c : i = k
  · subst c
    exact Or.inl ⟨up1_eq, up1_eq⟩
  · rw [up1_oi c, hm _ (by omega), hm _ (by omega)]
    exact h4 i hi
/-- the stage at the end of a link takes what the data show -/
theorem R_take {V M : Nat → Nat → Int32} {L : List (Nat × Nat)} {n p k w t d : Nat} (h : Rel V (M 1) L n p) (hl : L.length < 64) (hk : k < 6) (hw : w < 32) (hwt : V (11 + k) 7 = nI 0) (hda : V (11 + k) 5 = nI w) (ht : V 0 1 = nI t) (hd : V (18 + k) 1 = nI d) (hb : t + d < 2 ^ 31) :
    Rel (C2_takeWord V k) (C8_answer (up1 (up1 M 1 (97 + k) (nI 1)) 1 (103 + k) (C8_end (up1 M 1 (97 + k) (nI 1)) k 5)) k (nI 1) (nI 0) 1) (L ++ [(t + d, sgn_ k 1 1)]) n p := by
  have e0 : up1 V (11 + k) 7 (nI 0) = V := by
    funext c j
    rw [up1_at]
    by_cases q : c = 11 + k ∧ j = 7
    · rw [if_pos q, q.1, q.2, hwt]
    · rw [if_neg q]
  have e1 : C8_end (up1 M 1 (97 + k) (nI 1)) k 5 = nI w := by
    show up1 M 1 (97 + k) (nI 1) 1 ((34 + (6 * k)) + 5) = _
    rw [up1_oi (by omega), ← (ps_lk (show k < 7 by omega) (show 5 < 6 by decide)).1, ← R_eq h (ps_lk (by omega) (by decide)).2]
    exact hda
  rw [e1]
  have eV : C2_takeWord V k = C2_makeAnswer (up1 V 2 k (nI w)) k (nI 1) (nI 0) := by
    show C2_makeAnswer (up1 (up1 V (11 + k) 7 (nI 0)) 2 k (up1 V (11 + k) 7 (nI 0) (11 + k) 5)) k (nI 1) (nI 0) = _
    rw [e0, hda]
  rw [eV]
  have a := R_hold h hk hw
  exact R_answer (e := 0) a hl (by omega) (by decide) (by rw [up1_ne (by decide)]; exact ht) (by rw [up1_ne (by omega)]; exact hd) (by omega)
