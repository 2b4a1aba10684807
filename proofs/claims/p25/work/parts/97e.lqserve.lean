/-! the waiter lets a word go; the law's step and the same on the numbers -/
def L8s (M : Nat → Nat → Int32) (s : Nat) (x : Int32) : Nat → Nat → Int32 :=
  let V1 := setC M 1 (shl (M 1) (109 + 20 * s) 19)
  let V2 := up1 V1 1 (11 + s) ((V1 1 (11 + s)) - (nI 1))
  let V3 := up1 V2 1 8 (nI s)
  let V4 := up1 V3 1 (149 + (tN (M 1 9))) x
  up1 V4 1 9 ((V4 1 9) + (nI 1))
def L5s (G : Nat → Nat → Int32) (s : Nat) (x : Int32) : Nat → Nat → Int32 :=
  let V1 := setC G 4 (shl (G 4) (20 * s) 19)
  let V2 := up1 V1 0 (11 + s) ((V1 0 (11 + s)) - (nI 1))
  let V3 := up1 V2 0 8 (nI s)
  let V4 := up1 V3 5 (tN (V3 0 9)) x
  up1 V4 0 9 ((V4 0 9) + (nI 1))
theorem serve_eq (G : Nat → Nat → Int32) (s : Nat) : CL_serve G s = CL_offers (L5s G s ((nI (16 * s)) + (G 4 (20 * s)))) 0 ((nI (16 * s)) + (G 4 (20 * s))) := rfl
theorem L8s_1 {M : Nat → Nat → Int32} {s : Nat} {x : Int32} (hs : s < 2) (hp : tN (M 1 9) < 20) : (∀ j, j ≠ 8 → j ≠ 9 → j ≠ 11 + s → j ≠ 149 + tN (M 1 9) → L8s M s x 1 j = shl (M 1) (109 + 20 * s) 19 j) ∧ L8s M s x 1 8 = nI s ∧ L8s M s x 1 9 = M 1 9 + nI 1 ∧ L8s M s x 1 (11 + s) = M 1 (11 + s) - nI 1 ∧ L8s M s x 1 (149 + tN (M 1 9)) = x := by
  obtain ⟨V1, h1⟩ : ∃ z, setC M 1 (shl (M 1) (109 + 20 * s) 19) = z := ⟨_, rfl⟩
  have a1 : ∀ j, V1 1 j = shl (M 1) (109 + 20 * s) 19 j := fun j => by rw [← h1, setC_eq]
  have lo : ∀ j, j < 109 → shl (M 1) (109 + 20 * s) 19 j = M 1 j := fun j z => if_neg (by omega)
  have e : L8s M s x = up1 (up1 (up1 (up1 V1 1 (11 + s) (V1 1 (11 + s) - nI 1)) 1 8 (nI s)) 1 (149 + (tN (M 1 9))) x) 1 9 (up1 (up1 (up1 V1 1 (11 + s) (V1 1 (11 + s) - nI 1)) 1 8 (nI s)) 1 (149 + (tN (M 1 9))) x 1 9 + nI 1) := by
    unfold L8s
    try dsimp only
    rw [h1]
  rw [e]
  refine ⟨fun j n8 n9 n1 n2 => ?_, ?_, ?_, ?_, ?_⟩
  · rw [up1_in n9, up1_in n2, up1_in n8, up1_in n1, a1]
  · rw [up1_in (by omega), up1_in (by omega), up1_eq]
  · rw [up1_eq, up1_in (by omega), up1_in (by omega), up1_in (by omega), a1, lo 9 (by omega)]
  · rw [up1_in (by omega), up1_in (by omega), up1_in (by omega), up1_eq, a1, lo _ (by omega)]
  · rw [up1_in (by omega), up1_eq]
theorem L5s_1 {G : Nat → Nat → Int32} {s : Nat} {x : Int32} (hs : s < 2) : (∀ j, j ≠ 8 → j ≠ 9 → j ≠ 11 + s → L5s G s x 0 j = G 0 j) ∧ L5s G s x 0 8 = nI s ∧ L5s G s x 0 9 = G 0 9 + nI 1 ∧ L5s G s x 0 (11 + s) = G 0 (11 + s) - nI 1 ∧ L5s G s x 4 = shl (G 4) (20 * s) 19 ∧ L5s G s x 5 = upd (G 5) (tN (G 0 9)) x ∧ ∀ c, c ≠ 0 → c ≠ 4 → c ≠ 5 → L5s G s x c = G c := by
  obtain ⟨V1, h1⟩ : ∃ z, setC G 4 (shl (G 4) (20 * s) 19) = z := ⟨_, rfl⟩
  obtain ⟨V3, h3⟩ : ∃ z, up1 (up1 V1 0 (11 + s) (V1 0 (11 + s) - nI 1)) 0 8 (nI s) = z := ⟨_, rfl⟩
  have a0 : V1 0 = G 0 := by rw [← h1, setC_ne (by decide)]
  have a3 : ∀ c, c ≠ 0 → V3 c = V1 c := fun c z => by
    rw [← h3]
    show setC _ 0 _ c = _
    rw [setC_ne z]
    exact setC_ne z
  have a39 : V3 0 9 = G 0 9 := by rw [← h3, up1_in (by omega), up1_in (by omega), a0]
  have e : L5s G s x = up1 (up1 V3 5 (tN (G 0 9)) x) 0 9 (up1 V3 5 (tN (G 0 9)) x 0 9 + nI 1) := by
    rw [← a39]
    unfold L5s
    try dsimp only
    rw [h1, h3]
  have ec : ∀ c, c ≠ 0 → c ≠ 5 → L5s G s x c = V1 c := fun c n0 n5 => by
    rw [e]
    show setC _ 0 _ c = _
    rw [setC_ne n0]
    show setC _ 5 _ c = _
    rw [setC_ne n5, a3 c n0]
  refine ⟨fun j n8 n9 n1 => ?_, ?_, ?_, ?_, ?_, ?_, fun c n0 n4 n5 => ?_⟩
  · rw [e, up1_in n9, lup_ne (by omega), ← h3, up1_in n8, up1_in n1, a0]
  · rw [e, up1_in (by omega), lup_ne (by omega), ← h3, up1_eq]
  · rw [e, up1_eq, lup_ne (by omega), a39]
  · rw [e, up1_in (by omega), lup_ne (by omega), ← h3, up1_in (by omega), up1_eq, a0]
  · rw [ec 4 (by decide) (by decide), ← h1, setC_eq]
  · rw [e]
    show setC _ 0 _ 5 = _
    rw [setC_ne (by decide)]
    show setC _ 5 _ 5 = _
    rw [setC_eq, a3 5 (by decide), ← h1, setC_ne (by decide)]
  · rw [ec c n0 n5, ← h1, setC_ne n4]
theorem S_sst {G M : Nat → Nat → Int32} {n s : Nat} {x : Int32} (h : lqLS G M n) (hs : s < 2) (hc : 1 ≤ tN (M 1 (11 + s))) (hp : vp_in (M 1 9) 20) : lqLS (L5s G s x) (L8s M s x) n := by
  have hpl := inL hp
  obtain ⟨m1, m8, m9, mc, mp⟩ := L8s_1 (M := M) (x := x) hs hpl
  obtain ⟨g1, g8, g9, gc, g4, g5, gr⟩ := L5s_1 (G := G) (x := x) hs
  obtain ⟨⟨h1, h2, h3, h4, h5, h6⟩, r⟩ := h
  have q : ∀ j, j < 13 → G 0 j = M 1 j := fun j hj => h1 0 j (Or.inl ⟨rfl, hj⟩)
  obtain ⟨s1, s2, s3⟩ := tN_sub hc
  have hc20 : ∀ s', s' < 2 → tN (M 1 (11 + s')) ≤ 20 := fun s' z => by
    match s', z with
    | 0, _ => exact r.2.2.2.1
    | 1, _ => exact r.2.2.2.2
  have lo : ∀ j, (j < 109 + 20 * s ∨ 128 + 20 * s ≤ j) → shl (M 1) (109 + 20 * s) 19 j = M 1 j := fun j z => if_neg (by omega)
  have m1' : ∀ j, j ≠ 8 → j ≠ 9 → j ≠ 11 + s → j ≠ 149 + tN (M 1 9) → (j < 109 ∨ 149 ≤ j) → L8s M s x 1 j = M 1 j := fun j a b c d e => by rw [m1 j a b c d, lo j (by omega)]
  have t9 : tN (M 1 9 + nI 1) = tN (M 1 9) + 1 := by
    have e := inN hp
    rw [e, nI_add, tN_nI (by omega), tN_nI (by omega)]
  have tc : ∀ s', s' < 2 → tN (L8s M s x 1 (11 + s')) ≤ tN (M 1 (11 + s')) := fun s' z => by
    by_cases y : s' = s
    · subst y; rw [mc, s3]; omega
    · rw [m1' _ (by omega) (by omega) (by omega) (by omega) (by omega)]; exact Nat.le_refl _
  refine ⟨⟨?_, LHd_of h2 (fun k _ => by rw [gr 3 (by decide) (by decide) (by decide)]) (fun j a b => m1' j (by omega) (by omega) (by omega) (by omega) (by omega)), ?_, ?_, LCh_of h5 (gr 6 (by decide) (by decide) (by decide)) (gr 7 (by decide) (by decide) (by decide)) (m1' 10 (by omega) (by omega) (by omega) (by omega) (by omega)) (fun j a => m1' j (by omega) (by omega) (by omega) (by omega) (by omega)), LNt_of h6 (gr 8 (by decide) (by decide) (by decide)) (m1' 5 (by omega) (by omega) (by omega) (by omega) (by omega)) (fun j a b => m1' j (by omega) (by omega) (by omega) (by omega) (by omega))⟩, ?_⟩
  · intro c i hd
    by_cases z : c = 0
    · subst z
      show L5s G s x 0 i = L8s M s x 1 i
      have hi : i < 13 := by unfold DL at hd; omega
      by_cases a8 : i = 8
      · subst a8; rw [g8, m8]
      · by_cases a9 : i = 9
        · subst a9; rw [g9, m9, q 9 (by decide)]
        · by_cases ac : i = 11 + s
          · subst ac; rw [gc, mc, q _ hi]
          · rw [g1 i a8 a9 ac, m1' i a8 a9 ac (by omega) (by omega)]
            exact q i hi
    · have hp2 := lp_pl hd
      have ne : ∀ j, j < 13 → pl c i ≠ j := fun j hj e => z (pl_inj hd (show DL 0 j from Or.inl ⟨rfl, hj⟩) (by rw [e]; rfl)).1
      rw [gr c z (by unfold DL at hd; omega) (by unfold DL at hd; omega), m1' _ (ne 8 (by decide)) (ne 9 (by decide)) (ne (11 + s) (by omega)) (by omega) (by omega)]
      exact h1 c i hd
  · intro s' hs' j hj
    have k1 := tc s' hs'
    have k2 := hc20 s' hs'
    rw [g4]
    by_cases y : s' = s
    · subst y
      rw [mc, s3] at hj
      rw [m1 _ (by omega) (by omega) (by omega) (by omega)]
      show (if 20 * s' ≤ 20 * s' + j ∧ 20 * s' + j < 20 * s' + 19 then G 4 (20 * s' + j + 1) else _) = (if 109 + 20 * s' ≤ 109 + 20 * s' + j ∧ 109 + 20 * s' + j < 109 + 20 * s' + 19 then M 1 (109 + 20 * s' + j + 1) else _)
      rw [if_pos (by omega), if_pos (by omega)]
      exact h3 s' hs' (j + 1) (by omega)
    · rw [m1 _ (by omega) (by omega) (by omega) (by omega), lo _ (by omega)]
      show (if 20 * s ≤ 20 * s' + j ∧ 20 * s' + j < 20 * s + 19 then _ else G 4 (20 * s' + j)) = _
      rw [if_neg (by omega)]
      exact h3 s' hs' j (by omega)
  · intro j hj
    rw [m9, t9] at hj
    rw [g5, q 9 (by decide)]
    by_cases y : j = tN (M 1 9)
    · subst y
      rw [mp]
      exact if_pos rfl
    · rw [m1' _ (by omega) (by omega) (by omega) (by omega) (by omega)]
      show (if j = tN (M 1 9) then x else G 5 j) = _
      rw [if_neg y]
      exact h4 j (by omega)
  · refine ⟨?_, ?_, ?_, ?_, ?_⟩
    · rw [m1' 10 (by omega) (by omega) (by omega) (by omega) (by omega)]; exact r.1
    · rw [m1' 3 (by omega) (by omega) (by omega) (by omega) (by omega)]; exact r.2.1
    · rw [m9, t9]; omega
    · exact Nat.le_trans (tc 0 (by decide)) r.2.2.2.1
    · exact Nat.le_trans (tc 1 (by decide)) r.2.2.2.2
theorem letGo_eq (M : Nat → Nat → Int32) : C8_letGo M = if M 1 76 = 0 then M else if (M 1 11) + (M 1 12) = 0 then M else if M 1 11 = 0 then C8_offer (L8s M 1 (nI 16 + M 1 129)) 0 (nI 16 + M 1 129) else if M 1 12 ≤ 0 then C8_offer (L8s M 0 (nI 0 + M 1 109)) 0 (nI 0 + M 1 109) else if M 1 2 = 0 then (if M 1 8 = 0 then C8_offer (L8s M 1 (nI 16 + M 1 129)) 0 (nI 16 + M 1 129) else C8_offer (L8s M 0 (nI 0 + M 1 109)) 0 (nI 0 + M 1 109)) else C8_offer (L8s M 0 (nI 0 + M 1 109)) 0 (nI 0 + M 1 109) := rfl
theorem S_serve {G M : Nat → Nat → Int32} {n a b y : Nat} (h : lqLS G M n) (hn : n ≤ 61) (hp : vp_in (M 1 9) 20) (ea : M 1 11 = nI a) (eb : M 1 12 = nI b) (ha : a ≤ 20) (hb : b ≤ 20) (wa : 0 < a → ∃ w, w < 16 ∧ M 1 109 = nI w) (wb : 0 < b → ∃ w, w < 16 ∧ M 1 129 = nI w) (ey : M 1 2 = nI y) (hy : y ≤ 1) : lqLS (CL_serves G) (C8_letGo M) (n + 2) := by
  have up : lqLS G M (n + 2) := ⟨h.1, vp_mono h.2.1 (by omega), h.2.2⟩
  have q : ∀ j, j < 13 → G 0 j = M 1 j := fun j hj => LQ_q h.1 hj
  have ta : tN (M 1 11) = a := by rw [ea]; exact tN_nI (by omega)
  have tb : tN (M 1 12) = b := by rw [eb]; exact tN_nI (by omega)
  have g0 : 0 < a → lqLS (CL_serve G 0) (C8_offer (L8s M 0 (nI 0 + M 1 109)) 0 (nI 0 + M 1 109)) (n + 2) := fun z => by
    obtain ⟨w, w1, w2⟩ := wa z
    have e4 : G 4 (20 * 0) = M 1 109 := h.1.2.2.1 0 (by decide) 0 (by rw [show 11 + 0 = 11 from rfl, ta]; exact z)
    have x1 : nI (16 * 0) + G 4 (20 * 0) = nI w := by rw [e4, w2, nI_add]; congr 1; omega
    have x2 : nI 0 + M 1 109 = nI w := by rw [w2, nI_add]; congr 1; omega
    rw [serve_eq, x1, x2]
    exact S_offer (S_sst h (by decide) (by rw [show 11 + 0 = 11 from rfl, ta]; exact z) hp) (by omega) (by decide) (by omega)
  have g1 : 0 < b → lqLS (CL_serve G 1) (C8_offer (L8s M 1 (nI 16 + M 1 129)) 0 (nI 16 + M 1 129)) (n + 2) := fun z => by
    obtain ⟨w, w1, w2⟩ := wb z
    have e4 : G 4 (20 * 1) = M 1 129 := h.1.2.2.1 1 (by decide) 0 (by rw [show 11 + 1 = 12 from rfl, tb]; exact z)
    have x1 : nI (16 * 1) + G 4 (20 * 1) = nI (16 + w) := by rw [e4, w2, nI_add]
    have x2 : nI 16 + M 1 129 = nI (16 + w) := by rw [w2, nI_add]
    rw [serve_eq, x1, x2]
    exact S_offer (S_sst h (by decide) (by rw [show 11 + 1 = 12 from rfl, tb]; exact z) hp) (by omega) (by decide) (by omega)
  have f0 : G 3 0 = M 1 76 := S_f0 h (k := 0) (by decide)
  have eG : CL_serves G = if M 1 76 = 0 then G else if nI a = 0 then (if nI b = 0 then G else CL_serve G 1) else if nI b = 0 then CL_serve G 0 else if nI y = nI 1 then CL_serve G 0 else if M 1 8 = 0 then CL_serve G 1 else CL_serve G 0 := by
    unfold CL_serves CL_servs
    rw [f0, q 11 (by decide), q 12 (by decide), q 2 (by decide), q 8 (by decide), ea, eb, ey]
  have eM : C8_letGo M = if M 1 76 = 0 then M else if nI a + nI b = 0 then M else if nI a = 0 then C8_offer (L8s M 1 (nI 16 + M 1 129)) 0 (nI 16 + M 1 129) else if nI b ≤ 0 then C8_offer (L8s M 0 (nI 0 + M 1 109)) 0 (nI 0 + M 1 109) else if nI y = 0 then (if M 1 8 = 0 then C8_offer (L8s M 1 (nI 16 + M 1 129)) 0 (nI 16 + M 1 129) else C8_offer (L8s M 0 (nI 0 + M 1 109)) 0 (nI 0 + M 1 109)) else C8_offer (L8s M 0 (nI 0 + M 1 109)) 0 (nI 0 + M 1 109) := by
    rw [letGo_eq, ea, eb, ey]
  by_cases z : M 1 76 = 0
  · rw [eG, eM, if_pos z, if_pos z]; exact up
  · rw [if_neg z] at eG eM
    by_cases za : a = 0
    · have za' : nI a = 0 := (nI_eq0 (by omega)).mpr za
      rw [if_pos za'] at eG
      by_cases zb : b = 0
      · have zb' : nI b = 0 := (nI_eq0 (by omega)).mpr zb
        have zab : nI a + nI b = 0 := by rw [nI_add]; exact (nI_eq0 (by omega)).mpr (by omega)
        rw [if_pos zb'] at eG
        rw [if_pos zab] at eM
        rw [eG, eM]; exact up
      · have zb' : ¬ nI b = 0 := fun e => zb ((nI_eq0 (by omega)).mp e)
        have zab : ¬ nI a + nI b = 0 := by rw [nI_add]; exact fun e => zb (by have := (nI_eq0 (by omega)).mp e; omega)
        rw [if_neg zb'] at eG
        rw [if_neg zab, if_pos za'] at eM
        rw [eG, eM]; exact g1 (by omega)
    · have za' : ¬ nI a = 0 := fun e => za ((nI_eq0 (by omega)).mp e)
      have zab : ¬ nI a + nI b = 0 := by rw [nI_add]; exact fun e => za (by have := (nI_eq0 (by omega)).mp e; omega)
      rw [if_neg za'] at eG
      rw [if_neg zab, if_neg za'] at eM
      by_cases zb : b = 0
      · have zb' : nI b = 0 := (nI_eq0 (by omega)).mpr zb
        have zb2 : nI b ≤ 0 := (nI_le0 (by omega)).mpr zb
        rw [if_pos zb'] at eG
        rw [if_pos zb2] at eM
        rw [eG, eM]; exact g0 (by omega)
      · have zb' : ¬ nI b = 0 := fun e => zb ((nI_eq0 (by omega)).mp e)
        have zb2 : ¬ nI b ≤ 0 := fun e => zb ((nI_le0 (by omega)).mp e)
        rw [if_neg zb'] at eG
        rw [if_neg zb2] at eM
        rcases (show y = 0 ∨ y = 1 by omega) with rfl | rfl
        · rw [if_neg (show ¬ nI 0 = nI 1 by decide)] at eG
          rw [if_pos (show nI 0 = 0 from rfl)] at eM
          by_cases z8 : M 1 8 = 0
          · rw [if_pos z8] at eG eM
            rw [eG, eM]; exact g1 (by omega)
          · rw [if_neg z8] at eG eM
            rw [eG, eM]; exact g0 (by omega)
        · rw [if_pos (show nI 1 = nI 1 from rfl)] at eG
          rw [if_neg (show ¬ nI 1 = 0 by decide)] at eM
          rw [eG, eM]; exact g0 (by omega)
