/-! every turn alike -/
def Arg (k a w v nS : Nat) : Prop := (k = 0 ∧ a < 2 ∧ w < 16) ∨ (k = 1 ∧ 1 ≤ w ∧ w ≤ 200) ∨ (k = 2 ∧ a ≤ nS ∧ w < 3 ∧ 1 ≤ v ∧ v ≤ 20) ∨ (k = 3 ∧ a < 3 ∧ w ≤ 20 ∧ (a = 2 → w ≤ 1)) ∨ (k = 4 ∧ 1 ≤ a ∧ a ≤ 6) ∨ k = 5
section TURN3
variable {c b : Nat} {F : Nat → Nat → Nat → Int32} {M G : Nat → Nat → Int32}
def Calls (F F2 : Nat → Nat → Nat → Int32) (k a w v : Nat) (r : Int32) : Prop := ∀ (l : Launch) (D : va_G) (Y : Nat → ClassId) (ad : Nat → Nat → Nat), ∃ fr lo, fr ≤ 8 ∧ lo ≤ 200 ∧ CtI l yL_call wsL_call fr lo D (tyL Y) (FB Y ad F) [.ref (ad 8 2), .int (nI k), .int (nI a), .int (nI w), .int (nI v)] r (FB Y ad F2)
def Dues (G G2 : Nat → Nat → Int32) (k a w v : Nat) (r : Int32) : Prop := ∀ (l : Launch) (D : va_G) (Y : Nat → ClassId) (la : Nat → Nat), ∃ fr lo, fr ≤ 8 ∧ lo ≤ 200 ∧ CtI l yL_due wsL_due fr lo D (tyL Y) [lwB Y la G] [.int (nI k), .int (nI a), .int (nI w), .int (nI v), .ref (la 0), .ref (la 1), .ref (la 2), .ref (la 3), .ref (la 4), .ref (la 5), .ref (la 6), .ref (la 7), .ref (la 8)] r [lwB Y la G2]
theorem turn (ts : TS c b F M G) (hc : c + 1 < 2 ^ 29) (hb : b ≤ 600000) {k a w v : Nat} (ar : Arg k a w v (tN (G 0 3))) : ∃ r F2 G2, (∀ {c' b' : Nat} {F' : Nat → Nat → Nat → Int32} {M' : Nat → Nat → Int32}, TS c' b' F' M' G → c' + 1 < 2 ^ 29 → b' ≤ 600000 → ∃ F2', Calls F' F2' k a w v r ∧ Out c' b' M' F2' r G2) ∧ Calls F F2 k a w v r ∧ Dues G G2 k a w v r ∧ Out c b M F2 r G2 := by
  have lb : lqLB G := by
    obtain ⟨L, n, p, nS, t, ph, h, i, ht, o⟩ := ts.1.1
    exact lb_of h i ts.2.1
  have cn63 : vp_in (G 0 10) 63 := vp_mono lb.1 (by decide)
  have rws : ∀ s, s < 2 → vp_in (G 0 (11 + s)) 21 := fun s hs => by
    obtain ⟨L, n, p, nS, t, ph, h, i, ht, o⟩ := ts.1.1
    obtain ⟨-, ⟨x1, x2, x3, -⟩, ⟨y1, y2, y3, -⟩, -⟩ := nd_of h i o
    rw [LQ_q ts.2.1 (by omega)]
    rcases (show s = 0 ∨ s = 1 by omega) with z | z
    · subst z; rw [show 11 + 0 = 11 from rfl, x3]; exact vp_in_nI' (by omega)
    · subst z; rw [show 11 + 1 = 12 from rfl, y3]; exact vp_in_nI' (by omega)
  have wrap : ∀ (r : Int32) (op : (Nat → Nat → Nat → Int32) → Nat → Nat → Nat → Int32) (G2 : Nat → Nat → Int32), (∀ {c' b' : Nat} {F' : Nat → Nat → Nat → Int32} {M' : Nat → Nat → Int32}, TS c' b' F' M' G → c' + 1 < 2 ^ 29 → b' ≤ 600000 → Calls F' (op F') k a w v r ∧ Out c' b' M' (op F') r G2) → Dues G G2 k a w v r → ∃ r F2 G2, (∀ {c' b' : Nat} {F' : Nat → Nat → Nat → Int32} {M' : Nat → Nat → Int32}, TS c' b' F' M' G → c' + 1 < 2 ^ 29 → b' ≤ 600000 → ∃ F2', Calls F' F2' k a w v r ∧ Out c' b' M' F2' r G2) ∧ Calls F F2 k a w v r ∧ Dues G G2 k a w v r ∧ Out c b M F2 r G2 := fun r op G2 hop hd =>
    ⟨r, op F, G2, fun t h1 h2 => ⟨_, hop t h1 h2⟩, (hop ts hc hb).1, hd, (hop ts hc hb).2⟩
  rcases ar with ⟨rfl, ha, hw⟩ | ⟨rfl, h1, h2⟩ | ⟨rfl, ha, hw, h1, h2⟩ | ⟨rfl, ha, hw, h2⟩ | ⟨rfl, h1, h2⟩ | rfl
  · refine wrap (CL_due0 G a w v).1 (fun F' => (C7_add F' (nI a) (nI w)).2) (CL_due0 G a w v).2 (fun {c' b' F' M'} t x y => ?_) (fun l D Y la => ⟨3, 84, by decide, by decide, c_L_due0 l D Y la G a w v cn63 lb.2.1 ha (rws a ha)⟩)
    obtain ⟨e, u⟩ := turn0 t x v ha hw
    refine ⟨fun l D Y ad => ⟨6, 147, by decide, by decide, c_L_call0 l D Y ad F' _ a w v _ ?_⟩, u⟩
    rw [← e]
    exact c_X7_add l D Y ad F' (nI a) (nI w) (Hs_hi t.1.2.1) (Gd_bo t.1.1) (Gd_wf (Gd_tr t.1.1)) (P_add t.1 x (nI a) (nI w)).1
  · refine wrap (CL_due1 G w).1 (fun F' => (C7_run F' (nI w)).2) (CL_due1 G w).2 (fun {c' b' F' M'} t x y => ?_) (fun l D Y la => ⟨5, 147, by decide, by decide, c_L_due1 l D Y la G a w v (turn1 ts hc hb h1 h2).1⟩)
    obtain ⟨-, e, u⟩ := turn1 t x y h1 h2
    refine ⟨fun l D Y ad => ⟨7, 165, by decide, by decide, c_L_call1 l D Y ad F' _ a w v _ ?_⟩, u⟩
    rw [← e]
    obtain ⟨pt, -, b1, -⟩ := P_run t.1 (by omega) (nI w)
    exact c_X7_run l D Y ad F' (nI w) (Hs_hi t.1.2.1) (Gd_bo t.1.1) pt b1
  · refine wrap (CL_due2 G a w v).1 (fun F' => (C7_setDelay F' (nI a) (nI w) (nI v)).2) (CL_due2 G a w v).2 (fun {c' b' F' M'} t x y => ?_) (fun l D Y la => ⟨0, 0, by decide, by decide, c_L_due2 l D Y la G a w v (by have := inL lb.2.2.1; omega) hw⟩)
    obtain ⟨e, u⟩ := turn2 t ha hw h1 h2
    refine ⟨fun l D Y ad => ⟨6, 148, by decide, by decide, c_L_call2 l D Y ad F' _ a w v _ ?_⟩, u⟩
    rw [← e]
    exact c_X7_setDelay l D Y ad F' (nI a) (nI w) (nI v) (Hs_hi t.1.2.1) (Gd_bo t.1.1) (Gd_wf (Gd_tr t.1.1)).2.1 (Gd_wf (Gd_tr t.1.1)).1 (P_del t.1 (nI a) (nI w) (nI v)).1
  · refine wrap (CL_due3 G a w v).1 (fun F' => (C7_set F' (nI a) (nI w)).2) (CL_due3 G a w v).2 (fun {c' b' F' M'} t x y => ?_) (fun l D Y la => ⟨0, 0, by decide, by decide, c_L_due3 l D Y la G a w v ha⟩)
    obtain ⟨e, u⟩ := turn3 t v ha hw h2
    refine ⟨fun l D Y ad => ⟨6, 149, by decide, by decide, c_L_call3 l D Y ad F' _ a w v _ ?_⟩, u⟩
    rw [← e]
    exact c_X7_set l D Y ad F' (nI a) (nI w) (Hs_hi t.1.2.1) (Gd_bo t.1.1) (P_set t.1 (nI a) (nI w)).1
  · refine wrap (CL_due4 G a w v).1 (fun F' => (C7_build F' (nI a)).2) (CL_due4 G a w v).2 (fun {c' b' F' M'} t x y => ?_) (fun l D Y la => ⟨1, 25, by decide, by decide, c_L_due4 l D Y la G a w v lb.2.2.1⟩)
    obtain ⟨e, u⟩ := turn4 t w v h1 h2
    refine ⟨fun l D Y ad => ⟨6, 146, by decide, by decide, c_L_call4 l D Y ad F' _ a w v _ ?_⟩, u⟩
    rw [← e]
    exact c_X7_build l D Y ad F' (nI a) (Hs_hi t.1.2.1) (Gd_bo t.1.1) (Gd_wf t.1.1).2.1 (P_build t.1 (nI a)).1
  · refine wrap (CL_due5 G w).1 (fun F' => (C7_finish F').2) (CL_due5 G w).2 (fun {c' b' F' M'} t x y => ?_) (fun l D Y la => ⟨5, 147, by decide, by decide, c_L_due5 l D Y la G a w v (turn5 ts hc hb w).1⟩)
    obtain ⟨-, e, u⟩ := turn5 t x y w
    refine ⟨fun l D Y ad => ⟨6, 145, by decide, by decide, c_L_call5 l D Y ad F' _ a w v _ ?_⟩, u⟩
    rw [← e]
    obtain ⟨la, -, b1, -⟩ := P_finish t.1 (by omega)
    exact c_X7_finish l D Y ad F' (Hs_hi t.1.2.1) (Gd_bo t.1.1) la b1
/-- after an undo the class stands as before -/
theorem undo_back (ts : TS c b F M G) {F2 : Nat → Nat → Nat → Int32} {r : Int32} {G2 : Nat → Nat → Int32} (u : Out c b M F2 r G2) (hr : 0 ≤ r) : (0 < F2 8 0 0 → boL (F2 (3 + hsG F2))) ∧ hiOK F2 ∧ 0 ≤ (C7_undo F2).1 ∧ ∃ M3, TS (c + 1) b (C7_undo F2).2 M3 G ∧ ∀ j, j < 719 → M3 1 j = M 1 j := by
  obtain ⟨M', wh, lq, phi, -, un⟩ := u
  obtain ⟨un1, un2⟩ := un hr
  obtain ⟨e, a, w⟩ := P_undo wh
  have rn : Rn (M 1) 60 := by
    obtain ⟨L, n, p, nS, t, ph, h, i, ht, o⟩ := ts.1.1
    exact ⟨vp_mono (rn_of h i).1 (by decide), (rn_of h i).2⟩
  refine ⟨e, Hs_hi wh.2.1, by rw [a]; exact un1, (C8_undo M').2, ⟨w, LQ_m ts.2.1 rn un2, Phi_m ts.2.2 un2⟩, un2⟩
end TURN3
