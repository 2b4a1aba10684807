/-- the answer 0 at the waiter: the next word goes, if one waits -/
theorem S_ans0_0 {W M : Nat → Nat → Int32} {L : List (Nat × Nat)} {n p nS t cap : Nat} {ph : Nat → Nat} (h : Rel W (M 1) L n p) (m : Mid W L n p nS t ph cap 0) (hp : ph 0 = 5) (hl : L.length ≤ 49) (htb : t < 2 ^ 30) (hcb : cap < 2 ^ 29) :
    ∃ L' n' p' ph', Rel (C2_letAnswerArrive W 0 (nI 0)) (C8_answerArrives M 0 (nI 0) 1) L' n' p' ∧ Inv (C2_letAnswerArrive W 0 (nI 0)) L' n' p' nS t ph' cap ∧ mu (C2_letAnswerArrive W 0 (nI 0)) L' nS ph' + 1 = mu W L nS ph ∧ n ≤ n' := by
  obtain ⟨v, ls, lk, sg, pp, cp, k1, f6, f7, hs, d1, d2⟩ := id m
  obtain ⟨dd, b1, b2, b3⟩ := v.2.2.2.2.2.2.1 0 (by decide) 2 (by decide)
  obtain ⟨dr, c1, c2, c3⟩ := v.2.2.2.2.2.2.1 0 (by decide) 0 (by decide)
  obtain ⟨le, e1, e2⟩ := v.2.2.2.2.1
  have f0 : fu W 0 = 0 := sg.2.2.2.1
  have pw0 : pwt (ph 0) (fu W 0) = 0 := by rw [hp, f0]; rfl
  have p6 : p + 1 < 8 := by
    have a : S7 (fun k => pwt (ph k) (fu W k)) ≤ 6 := by
      have q := S7_one (f := fun k => pwt (ph k) (fu W k)) (g := fun k => if k = 0 then 1 else pwt (ph k) (fu W k)) (show 0 < 7 by decide) (fun i hi hne => if_neg hne)
      have q2 : S7 (fun k => if k = 0 then 1 else pwt (ph k) (fu W k)) ≤ 7 * 1 := S7_le (fun i hi => by
        show (if i = 0 then 1 else _) ≤ 1
        split
        · exact Nat.le_refl 1
        · exact pwt_le _ (fu_le W i))
      have q3 : (if (0 : Nat) = 0 then 1 else pwt (ph 0) (fu W 0)) = 1 := if_pos rfl
      rw [q3, pw0] at q
      omega
    omega
  obtain ⟨T0, T1⟩ := A_ans0_0 (t := t) (dd := dd) (dr := dr) (le := le) h (by omega) p6 (by omega) v.2.2.2.1 b3 c3 e2 (by omega)
  rw [hp] at d2
  have d2 : dk (t + 16) 0 (dts 0 L) := d2
  by_cases hv : wtN W = 0
  · obtain ⟨R, F⟩ := T0 hv
    have hw : wtN (C2_letAnswerArrive W 0 (nI 0)) = wtN W := wt_same (by rw [F 27 0 (by decide), if_neg (by omega)]) (by rw [F 28 0 (by decide), if_neg (by omega)])
    refine ⟨L, n, p, upN ph 0 0, R, inv_end m (by omega) (fun c i hc x y _ _ => by rw [F c i hc, if_neg (fun z => by omega)]) ls (fun k hk' => ?_) (fun i hi => fu_same (fun k _ => by rw [F 2 k (vw2 k), if_neg (by omega)]) hi) (stg1 sg k1 (fun _ => f0) (fun q => absurd q (by decide)) (fun q => absurd q (by decide))) ?_ (by rw [hw]; omega) ?_⟩
    · by_cases c : k = 0
      · subst c
        rw [upN_eq]
        exact ⟨by decide, by rw [F _ _ (by decide), if_pos ⟨rfl, rfl⟩]; rfl, by rw [F _ _ (by decide), if_neg (by omega)]; exact f7, 0, hs, d1, d2⟩
      · rw [upN_ne c]
        exact lk_far (lk k hk' c) (by rw [F _ _ (by unfold VW; omega), if_neg (by omega)]) (by rw [F _ _ (by unfold VW; omega), if_neg (by omega)]) rfl rfl
    · have e : S7 (fun k => pwt (upN ph 0 0 k) (fu W k)) = S7 (fun k => pwt (ph k) (fu W k)) := S7_eq (fun i hi => by
        show pwt (upN ph 0 0 i) _ = pwt (ph i) _
        by_cases c : i = 0
        · rw [c, upN_eq, hp, f0]; rfl
        · rw [upN_ne c])
      rw [e]
    · have e := S7_one (f := fun k => hwt nS k (ph k) (fu W k)) (g := fun k => hwt nS k (upN ph 0 0 k) (fu W k)) (show 0 < 7 by decide) (fun i hi hne => by
        show hwt nS i (upN ph 0 0 i) _ = hwt nS i (ph i) _
        rw [upN_ne hne])
      have z1 : hwt nS 0 (ph 0) (fu W 0) = 1 := by rw [hp, f0]; rfl
      have z2 : hwt nS 0 (upN ph 0 0 0) (fu W 0) = 0 := by rw [upN_eq]; rfl
      rw [z1, z2] at e
      rw [hw]
      omega
  · obtain ⟨w, w1, R, F, hw⟩ := T1 (by omega)
    have F2 : ∀ c i, VW c i → c ≠ 27 → c ≠ 28 → ¬ (c = 11 ∧ i = 6) → C2_letAnswerArrive W 0 (nI 0) c i = W c i := fun c i hc x y hn => by rw [F c i hc x y, if_neg hn]
    refine ⟨_, n, p + 1, upN ph 0 1, R, inv_end m (by omega) (fun c i hc x y a b => F2 c i hc a b (by omega)) (lst_snoc (lst_snoc ls (by omega) (by omega) k1 (by decide) w1) (by omega) (by omega) k1 (by decide) (by decide)) (fun k hk' => ?_) (fun i hi => fu_same (fun k _ => F2 2 k (vw2 k) (by decide) (by decide) (by omega)) hi) (stg1 sg k1 (fun q => absurd q (by decide)) (fun _ _ q => absurd q (by decide)) (fun q => absurd q (by decide))) ?_ (by omega) ?_⟩
    · by_cases c : k = 0
      · subst c
        rw [upN_eq]
        refine ⟨by decide, by rw [F _ _ (by decide) (by decide) (by decide), if_pos ⟨rfl, rfl⟩]; rfl, by rw [F2 _ _ (by decide) (by decide) (by decide) (by omega)]; exact f7, t + dr + le, ?_, ?_, ?_⟩
        · rw [hs_at (by decide) (by decide), hs_da w1, hs]; rfl
        · rw [dt_hs (by decide) (by decide), dt_at w1]
          exact ⟨by omega, dk_shift (show t + 16 + 4 ≤ t + 20 by omega) d2⟩
        · rw [dt_hs (by decide) (by decide), dt_at w1]
          exact ⟨show t + dd + 4 * 0 ≤ t + dr + le + 19 by omega, dk_shift (show t + 16 + 4 ≤ t + dr + le + 19 by omega) d2⟩
      · rw [upN_ne c]
        exact lk_far (lk k hk' c) (F2 _ _ (by unfold VW; omega) (by omega) (by omega) (by omega)) (F2 _ _ (by unfold VW; omega) (by omega) (by omega) (by omega)) (by rw [hs_ne (by decide) (by decide) (fun z => c z.symm), hs_da w1]) (by rw [dt_hs (by decide) (by decide), dt_ne (by decide) w1 (fun z => c z.symm)])
    · have e := S7_one (f := fun k => pwt (ph k) (fu W k)) (g := fun k => pwt (upN ph 0 1 k) (fu W k)) (show 0 < 7 by decide) (fun i hi hne => by
        show pwt (upN ph 0 1 i) _ = pwt (ph i) _
        rw [upN_ne hne])
      have z2 : pwt (upN ph 0 1 0) (fu W 0) = 1 := by rw [upN_eq]; rfl
      rw [pw0, z2] at e
      omega
    · have e0 := S7_one (f := fun k => (dts k L).length) (g := fun k => (dts k ((L ++ [(t + dd, sgn_ 0 2 w)]) ++ [(t + dr + le, sgn_ 0 0 1)])).length) (show 0 < 7 by decide) (fun i hi hne => by
        show (dts i ((L ++ [(t + dd, sgn_ 0 2 w)]) ++ [(t + dr + le, sgn_ 0 0 1)])).length = _
        rw [dt_hs (by decide) (by decide), dt_ne (by decide) w1 (fun z => hne z.symm)])
      have e0a : (dts 0 ((L ++ [(t + dd, sgn_ 0 2 w)]) ++ [(t + dr + le, sgn_ 0 0 1)])).length = (dts 0 L).length + 1 := by
        rw [dt_hs (by decide) (by decide), dt_at w1]; rfl
      have e := S7_one (f := fun k => hwt nS k (ph k) (fu W k)) (g := fun k => hwt nS k (upN ph 0 1 k) (fu W k)) (show 0 < 7 by decide) (fun i hi hne => by
        show hwt nS i (upN ph 0 1 i) _ = hwt nS i (ph i) _
        rw [upN_ne hne])
      have z1 : hwt nS 0 (ph 0) (fu W 0) = 1 := by rw [hp, f0]; rfl
      have z2 : hwt nS 0 (upN ph 0 1 0) (fu W 0) = 4 + 5 * (nS - 0) := by rw [upN_eq]; rfl
      rw [z1, z2] at e
      rw [e0a] at e0
      have e9 : 5 * (nS + 1) * wtN W = 5 * (nS + 1) * wtN (C2_letAnswerArrive W 0 (nI 0)) + 5 * (nS + 1) := by rw [← hw, Nat.mul_add, Nat.mul_one]
      rw [e9]
      omega
/-- a change arrives: the line is right behind it again, and one change less is to come -/
theorem step {V M : Nat → Nat → Int32} {L : List (Nat × Nat)} {n p nS t cap r : Nat} {ph : Nat → Nat} (h : Rel V (M 1) L n p) (i : Inv V L n p nS t ph cap) (hr : isF L r) (htb : t < 2 ^ 29) (hcb : cap < 2 ^ 29) :
    ∃ L' n' p' t' ph', Rel (lauS V) (C8_arrive M r 1) L' n' p' ∧ Inv (lauS V) L' n' p' nS t' ph' cap ∧ mu (lauS V) L' nS ph' + 1 = mu V L nS ph ∧ t' = (L.getD r (0, 0)).1 ∧ t ≤ t' ∧ t' ≤ t + 40 ∧ n ≤ n' := by
  have hlen := inv_len i
  obtain ⟨A, B, eL, eA, hA, hB⟩ := isF_cut hr
  obtain ⟨x, hx⟩ : ∃ x, L.getD r (0, 0) = x := ⟨_, rfl⟩
  rw [hx] at eL hA hB
  obtain ⟨v, ls, lk, sg, pp, cp⟩ := id i
  have hxm : x ∈ L := by rw [eL]; exact List.mem_append_right _ List.mem_cons_self
  obtain ⟨x1, x2, x3⟩ := ls x hxm
  have n6 := v.2.1
  -- the change by its link, wire and value
  obtain ⟨k0, w, vv, hw, hvv, ex⟩ : ∃ k0 w vv, w < 3 ∧ vv < 32 ∧ x = (x.1, sgn_ k0 w vv) := ⟨x.2 / 96, x.2 / 32 % 3, x.2 % 32, by omega, by omega, Prod.ext rfl (by show x.2 = ((x.2 / 96 * 3 + x.2 / 32 % 3) * 32) + x.2 % 32; omega)⟩
  obtain ⟨t', ht'⟩ : ∃ z, z = x.1 := ⟨_, rfl⟩
  rw [← ht'] at ex x1 x2 hA hB
  have hk0 : k0 ≤ nS := by
    have : x.2 / 96 = k0 := by rw [ex]; exact (sig_dec (k := k0) hw hvv).1
    omega
  have hk7 : k0 < 7 := by omega
  subst ex
  have hx3 : L.getD r (0, 0) = (t', sgn_ k0 w vv) := hx
  obtain ⟨R, P1, P2, P3⟩ := R_pop (A := A) (B := B) (x := (t', sgn_ k0 w vv)) (by rw [← eL]; exact h) (by rw [← eL]; omega) hA hB
  have eq1 := lauS_eq (A := A) (B := B) (t := t') (k := k0) (w := w) (v := vv) (nS := nS) h.2.1 eL hA hB hw hvv hk0 (by omega) v.2.2.1
  have eq2 := arrive_eq (M := M) (L := L) (r := r) (t := t') (k := k0) (w := w) (v := vv) h.2.2.1 hr.1 hx3 hw hvv hk7
  rw [eA] at R
  have P2 : popV V 0 1 = nI t' := P2
  -- the line behind the change's leaving
  have Wv : ∀ c j, VW c j → ¬ (c = 0 ∧ j = 1) → popV V c j = V c j := fun c j hc hn => by
    by_cases c0 : c = 0
    · subst c0; exact P3 j (by omega) (by unfold VW at hc; omega)
    · rw [P1 c c0 (by unfold VW at hc; omega) (by unfold VW at hc; omega) (by unfold VW at hc; omega)]
  have vW : Vals (popV V) nS t' := by
    obtain ⟨a, b, c, d, ⟨le, e1, e2⟩, ⟨th, g1, g2⟩, g, k⟩ := v
    refine ⟨a, b, by rw [Wv 0 0 (by decide) (by decide)]; exact c, P2, ⟨le, e1, by rw [Wv 1 0 (by decide) (by decide)]; exact e2⟩, ⟨th, g1, by rw [Wv 1 1 (by decide) (by decide)]; exact g2⟩, fun j hj w hw => ?_, fun j hj => ?_⟩
    · obtain ⟨y, y1, y2, y3⟩ := g j hj w hw
      exact ⟨y, y1, y2, by rw [Wv _ _ (by unfold VW; omega) (by omega)]; exact y3⟩
    · obtain ⟨y, y1, y2⟩ := k j hj
      exact ⟨y, y1, by rw [Wv _ _ (by unfold VW; omega) (by omega)]; exact y2⟩
  have lsW : Lst (A ++ B) nS t' := by
    intro y hy
    have hyL : y ∈ L := by
      rw [eL]
      rcases List.mem_append.mp hy with q | q
      · exact List.mem_append_left _ q
      · exact List.mem_append_right _ (List.mem_cons_of_mem _ q)
    obtain ⟨y1, y2, y3⟩ := ls y hyL
    refine ⟨?_, by omega, y3⟩
    rcases List.mem_append.mp hy with q | q
    · have := hA y q; omega
    · exact hB y q
  have lkW : ∀ k, k < 7 → k ≠ k0 → LkI (popV V) (A ++ B) t' k (ph k) := fun k hk hne =>
    LkI_frame (lk k hk) (Wv _ _ (by unfold VW; omega) (by omega)) (Wv _ _ (by unfold VW; omega) (by omega)) (by rw [eL, hs_pop hw hvv, if_neg (fun z => hne z.1.symm)]) (by rw [eL]; exact dt_sub) x1
  have fuW : ∀ j, j < 7 → fu (popV V) j = fu V j := fun j hj => fu_same (fun k _ => Wv 2 k (vw2 k) (by omega)) hj
  have sgW : Stg (popV V) nS ph := stg_eq sg (by omega) fuW
  have wtW : wtN (popV V) = wtN V := wt_same (Wv 27 0 (by decide) (by decide)) (Wv 28 0 (by decide) (by decide))
  have ppW : p = S7 (fun k => pwt (ph k) (fu (popV V) k)) := by rw [pp]; exact (S7_eq (fun j hj => by show pwt _ (fu (popV V) j) = _; rw [fuW j hj])).symm
  have hsW : S7 (fun k => hwt nS k (ph k) (fu (popV V) k)) = S7 (fun k => hwt nS k (ph k) (fu V k)) := S7_eq (fun j hj => by show hwt _ _ _ (fu (popV V) j) = _; rw [fuW j hj])
  have lab : (A ++ B).length ≤ 49 := by have e : L.length = (A ++ (t', sgn_ k0 w vv) :: B).length := congrArg List.length eL; rw [List.length_append, List.length_cons] at e; rw [List.length_append]; omega
  obtain ⟨k1, k2, k3, a, k4, k5, k6⟩ := lk k0 hk7
  by_cases w2 : w = 2
  · -- data
    subst w2
    rw [eq1, eq2, if_neg (by decide), if_neg (by decide), if_neg (by decide), if_neg (by decide)]
    have R2 := R_end (f := 5) (x := nI vv) R hk7 (by decide)
    refine ⟨A ++ B, n, p, t', ph, R2, ⟨?_, lsW, fun k hk => ?_, stg_eq sgW (by omega) (fun j hj => fu_same (fun k _ => by rw [up1_ne (by omega)]) hj), ?_, ?_⟩, ?_, by rw [hx3], x1, x2, Nat.le_refl n⟩
    · obtain ⟨a, b, c, d, ⟨le, e1, e2⟩, ⟨th, g1, g2⟩, g, k⟩ := vW
      refine ⟨a, b, by rw [up1_ne (by omega)]; exact c, by rw [up1_ne (by omega)]; exact d, ⟨le, e1, by rw [up1_ne (by omega)]; exact e2⟩, ⟨th, g1, by rw [up1_ne (by omega)]; exact g2⟩, fun j hj w hw => ?_, fun j hj => ?_⟩
      · obtain ⟨y, y1, y2, y3⟩ := g j hj w hw
        exact ⟨y, y1, y2, by rw [up1_ne (by omega)]; exact y3⟩
      · rw [up1_at]
        by_cases c : 11 + j = 11 + k0 ∧ 5 = 5
        · rw [if_pos c]; exact ⟨vv, hvv, rfl⟩
        · rw [if_neg c]; exact k j hj
    · have f : ∀ q, q ≠ 5 → up1 (popV V) (11 + k0) 5 (nI vv) (11 + k) q = V (11 + k) q ∨ ¬ (q = 6 ∨ q = 7) := fun q hq => by
        by_cases c : q = 6 ∨ q = 7
        · left; rw [up1_at, if_neg (fun z => hq z.2)]; exact Wv _ _ (by unfold VW; omega) (by omega)
        · right; exact c
      exact LkI_frame (lk k hk) ((f 6 (by decide)).resolve_right (fun z => z (Or.inl rfl))) ((f 7 (by decide)).resolve_right (fun z => z (Or.inr rfl))) (by rw [eL, hs_pop hw hvv, if_neg (fun z => z.2 rfl)]) (by rw [eL]; exact dt_sub) x1
    · rw [ppW]
      exact (S7_eq (fun j hj => by
        show pwt _ (fu _ j) = pwt _ (fu _ j)
        rw [fu_same (V := up1 (popV V) (11 + k0) 5 (nI vv)) (W := popV V) (fun k _ => by rw [up1_ne (by omega)]) hj])).symm
    · have e : wtN (up1 (popV V) (11 + k0) 5 (nI vv)) = wtN V := by rw [← wtW]; exact wt_same (by rw [up1_ne (by omega)]) (by rw [up1_ne (by omega)])
      rw [e]; exact cp
    · have e : wtN (up1 (popV V) (11 + k0) 5 (nI vv)) = wtN V := by rw [← wtW]; exact wt_same (by rw [up1_ne (by omega)]) (by rw [up1_ne (by omega)])
      have e2 : S7 (fun k => hwt nS k (ph k) (fu (up1 (popV V) (11 + k0) 5 (nI vv)) k)) = S7 (fun k => hwt nS k (ph k) (fu V k)) := by
        rw [← hsW]
        exact S7_eq (fun j hj => by
          show hwt _ _ _ (fu _ j) = hwt _ _ _ (fu _ j)
          rw [fu_same (V := up1 (popV V) (11 + k0) 5 (nI vv)) (W := popV V) (fun k _ => by rw [up1_ne (by omega)]) hj])
      have e3 := S7_one (f := fun k => (dts k L).length) (g := fun k => (dts k (A ++ B)).length) hk7 (fun j hj hne => by
        show (dts j (A ++ B)).length = (dts j L).length
        rw [eL, dt_len hw hvv, if_neg (fun z => hne z.1.symm)]; rfl)
      have e4 : (dts k0 L).length = (dts k0 (A ++ B)).length + 1 := by rw [eL, dt_len hw hvv, if_pos ⟨rfl, rfl⟩]
      have e3 : S7 (fun k => (dts k (A ++ B)).length) + (dts k0 L).length = S7 (fun k => (dts k L).length) + (dts k0 (A ++ B)).length := e3
      unfold mu
      rw [e, e2]
      omega
  · -- a request or an answer
    have hp4 : ¬ (ph k0 = 0 ∨ ph k0 = 2) := fun z => by
      rw [if_pos z, eL, hs_pop hw hvv, if_pos ⟨rfl, w2⟩] at k4
      exact absurd k4 (by simp)
    rw [if_neg hp4, eL, hs_pop hw hvv, if_pos ⟨rfl, w2⟩] at k4
    have hAB : hsL k0 A = [] ∧ hsL k0 B = [] ∧ (t', sgn_ k0 w vv) = (a, hsg k0 (ph k0)) := by
      cases hq : hsL k0 A with
      | nil =>
        rw [hq, List.nil_append, List.cons.injEq] at k4
        exact ⟨rfl, k4.2, k4.1⟩
      | cons y l =>
        rw [hq] at k4
        have := congrArg List.length k4
        simp at this
    obtain ⟨z1, z2, z3⟩ := hAB
    rw [Prod.mk.injEq] at z3
    have hsE : hsL k0 (A ++ B) = [] := by
      have : hsL k0 (A ++ B) = hsL k0 A ++ hsL k0 B := by unfold hsL; rw [List.filter_append]
      rw [this, z1, z2]; rfl
    have dlen : ∀ j, j < 7 → (dts j L).length = (dts j (A ++ B)).length := fun j _ => by rw [eL, dt_len hw hvv, if_neg (fun z => w2 z.2)]; rfl
    have m : Mid (popV V) (A ++ B) n p nS t' ph cap k0 := by
      refine ⟨vW, lsW, lkW, sgW, ppW, by rw [wtW]; exact cp, hk0, ?_, ?_, hsE, dk_mono (by omega) (dk_sub dt_sub (eL ▸ k5)), ?_⟩
      · rw [Wv _ _ (by unfold VW; omega) (by omega), k2, if_neg (fun z => hp4 (Or.inl z))]
      · rw [Wv _ _ (by unfold VW; omega) (by omega), k3, if_neg (fun z => hp4 (Or.inr z))]
      · have q : bd (ph k0) a t = bd (ph k0) t' t' := by
          rw [← z3.1]
          unfold bd
          rw [if_neg (fun z => hp4 (Or.inl z)), if_neg (fun z => hp4 (Or.inr z)), if_neg (fun z => hp4 (Or.inl z)), if_neg (fun z => hp4 (Or.inr z))]
        rw [← q]
        exact dk_sub dt_sub (eL ▸ k6)
    have muW : mu (popV V) (A ++ B) nS ph = mu V L nS ph := by
      unfold mu
      rw [wtW, hsW, S7_eq (f := fun k => (dts k L).length) (g := fun k => (dts k (A ++ B)).length) (fun j hj => (dlen j hj).symm)]
    have sig := z3.2
    have hcase : (ph k0 = 1 ∧ w = 0 ∧ vv = 1) ∨ (ph k0 = 3 ∧ w = 1 ∧ vv = 1) ∨ (ph k0 = 4 ∧ w = 0 ∧ vv = 0) ∨ (ph k0 = 5 ∧ w = 1 ∧ vv = 0) := by
      have sig : ((k0 * 3 + w) * 32) + vv = ((k0 * 3 + (if ph k0 = 1 ∨ ph k0 = 4 then 0 else 1)) * 32) + (if ph k0 = 1 ∨ ph k0 = 3 then 1 else 0) := sig
      rcases (show ph k0 = 1 ∨ ph k0 = 3 ∨ ph k0 = 4 ∨ ph k0 = 5 by omega) with q | q | q | q
      · rw [q, if_pos (Or.inl rfl), if_pos (Or.inl rfl)] at sig; exact Or.inl ⟨q, by omega, by omega⟩
      · rw [q, if_neg (by decide), if_pos (Or.inr rfl)] at sig; exact Or.inr (Or.inl ⟨q, by omega, by omega⟩)
      · rw [q, if_pos (Or.inr rfl), if_neg (by decide)] at sig; exact Or.inr (Or.inr (Or.inl ⟨q, by omega, by omega⟩))
      · rw [q, if_neg (by decide), if_neg (by decide)] at sig; exact Or.inr (Or.inr (Or.inr ⟨q, by omega, by omega⟩))
    have fin : (∃ L' n' p' ph', Rel (lauS V) (C8_arrive M r 1) L' n' p' ∧ Inv (lauS V) L' n' p' nS t' ph' cap ∧ mu (lauS V) L' nS ph' + 1 = mu (popV V) (A ++ B) nS ph ∧ n ≤ n') → ∃ L' n' p' t' ph', Rel (lauS V) (C8_arrive M r 1) L' n' p' ∧ Inv (lauS V) L' n' p' nS t' ph' cap ∧ mu (lauS V) L' nS ph' + 1 = mu V L nS ph ∧ t' = (L.getD r (0, 0)).1 ∧ t ≤ t' ∧ t' ≤ t + 40 ∧ n ≤ n' := by
      rintro ⟨L', n', p', ph', y1, y2, y3, y4⟩
      exact ⟨L', n', p', t', ph', y1, y2, by rw [y3, muW], by rw [hx3], x1, x2, y4⟩
    apply fin
    rw [eq1, eq2]
    rcases hcase with ⟨q, rfl, rfl⟩ | ⟨q, rfl, rfl⟩ | ⟨q, rfl, rfl⟩ | ⟨q, rfl, rfl⟩
    · rw [if_pos rfl, if_pos rfl]
      by_cases c : k0 = nS
      · subst c
        exact S_note R m q lab (by omega)
      · by_cases c2 : fu (popV V) (k0 + 1) = 0
        · exact S_take R m q (by omega) c2 lab (by omega)
        · exact S_wait R m q (by omega) (by have := fu_le (popV V) (k0 + 1); omega)
    · rw [if_neg (by decide), if_pos rfl, if_neg (by decide), if_pos rfl]
      cases k0 with
      | zero => exact S_ans1_0 R m q lab (by omega)
      | succ j => exact S_ans1 R m q lab (by omega)
    · rw [if_pos rfl, if_pos rfl]
      exact S_req0 R m q lab (by omega)
    · rw [if_neg (by decide), if_pos rfl, if_neg (by decide), if_pos rfl]
      cases k0 with
      | zero => exact S_ans0_0 R m q lab (by omega) hcb
      | succ j => exact S_ans0 R m q lab (by omega)
