/-! the class's own world -/
def setF (F : Nat → Nat → Nat → Int32) (a : Nat) (V : Nat → Nat → Int32) : Nat → Nat → Nat → Int32 := fun a' => if a' = a then V else F a'
theorem setF_eq (F : Nat → Nat → Nat → Int32) (a : Nat) (V : Nat → Nat → Int32) : setF F a V a = V := if_pos rfl
theorem setF_ne {F : Nat → Nat → Nat → Int32} {a a' : Nat} {V : Nat → Nat → Int32} (h : a' ≠ a) : setF F a V a' = F a' := if_neg h
abbrev hsF (ad : Nat → Nat → Nat) (s : Nat → Int32) : Nat → Option Nat := fun k => some (ad (3 + tN (s k)) 0)
abbrev hbB (Y : Nat → ClassId) (ad : Nat → Nat → Nat) (S : Nat → Nat → Int32) : va_W := [(ad 8 0, .inr (1, [.ref (ad 8 1), .int (S 0 0)])), (ad 8 1, ra (Y 2) 4 (hsF ad (S 1)))]
abbrev fpB (ad : Nat → Nat → Nat) (x : Int32) : va_W := [(ad 8 2, .inr (7, [.ref (ad 0 0), .ref (ad 1 0), .ref (ad 2 0), .int x, .ref (ad 8 0), .ref (ad 7 0)]))]
/-- the history's world: itself, the line that is now, its own four lines -/
def HB (Y : Nat → ClassId) (ad : Nat → Nat → Nat) (F : Nat → Nat → Nat → Int32) : List va_W := [hbB Y ad (F 8)] ++ LB Y (ad 0) (F 0) ++ LB Y (ad 3) (F 3) ++ LB Y (ad 4) (F 4) ++ LB Y (ad 5) (F 5) ++ LB Y (ad 6) (F 6)
def FB (Y : Nat → ClassId) (ad : Nat → Nat → Nat) (F : Nat → Nat → Nat → Int32) : List va_W := HB Y ad F ++ LB Y (ad 1) (F 1) ++ LB Y (ad 2) (F 2) ++ [fpB ad (F 8 0 1)] ++ [txB Y (ad 7) (F 7)]
theorem putL_seg : ∀ (P A A' R : List va_W), A'.length = A.length → putL (P ++ A ++ R) (List.range' P.length A.length) A' = P ++ A' ++ R
  | P, [], A', R, h => by
    have : A' = [] := List.length_eq_zero_iff.mp h
    subst this; rfl
  | P, x :: A, [], R, h => by simp at h
  | P, x :: A, y :: A', R, h => by
    have h2 : A'.length = A.length := by simpa using h
    have e : (P ++ x :: A ++ R).set P.length y = (P ++ [y]) ++ A ++ R := by simp [List.set_append]
    have ih := putL_seg (P ++ [y]) A A' R h2
    show putL ((P ++ x :: A ++ R).set P.length y) (List.range' (P.length + 1) A.length) A' = _
    rw [e]
    have l : (P ++ [y]).length = P.length + 1 := by simp
    rw [l] at ih
    rw [ih]; simp
theorem sel_seg : ∀ (P A R : List va_W), (List.range' P.length A.length).map (fun i => (P ++ A ++ R)[i]?) = A.map some
  | P, [], R => rfl
  | P, x :: A, R => by
    have ih := sel_seg (P ++ [x]) A R
    have l : (P ++ [x]).length = P.length + 1 := by simp
    rw [l] at ih
    have e : P ++ x :: A ++ R = (P ++ [x]) ++ A ++ R := by simp
    show (P ++ x :: A ++ R)[P.length]? :: (List.range' (P.length + 1) A.length).map (fun i => (P ++ x :: A ++ R)[i]?) = some x :: A.map some
    rw [e, ih]
    congr 1
    rw [← e]; simp
theorem sel_all {Bs : List va_W} {n : Nat} (h : Bs.length = n) : (List.range n).map (fun i => Bs[i]?) = Bs.map some := by
  have := sel_seg [] Bs []
  rw [List.range_eq_range', ← h]
  simpa using this
theorem put_all {Bs Bs' : List va_W} {n : Nat} (h : Bs.length = n) (h' : Bs'.length = n) : putL Bs (List.range n) Bs' = Bs' := by
  have := putL_seg [] Bs Bs' [] (by rw [h, h'])
  rw [List.range_eq_range', ← h]
  simpa using this
theorem putL_same : ∀ {sel : List Nat} {Bs Bc : List va_W}, sel.map (fun i => Bs[i]?) = Bc.map some → putL Bs sel Bc = Bs
  | [], Bs, Bc, _ => by cases Bc <;> rfl
  | i :: is, Bs, [], _ => rfl
  | i :: is, Bs, b :: bs, h => by
    simp only [List.map_cons, List.cons.injEq] at h
    have e : Bs.set i b = Bs := by
      apply List.ext_getElem?
      intro k
      by_cases hk : i = k
      · subst hk
        rw [List.getElem?_set_self (List.getElem?_eq_some_iff.mp h.1).1, h.1]
      · rw [List.getElem?_set_ne hk]
    show putL (Bs.set i b) is bs = Bs
    rw [e]; exact putL_same h.2
theorem putL_app : ∀ (s1 s2 : List Nat) (Bs B1 B2 : List va_W), s1.length = B1.length → putL Bs (s1 ++ s2) (B1 ++ B2) = putL (putL Bs s1 B1) s2 B2
  | [], s2, Bs, [], B2, _ => by cases s2 <;> cases B2 <;> rfl
  | [], s2, Bs, b :: B1, B2, h => by simp at h
  | i :: s1, s2, Bs, [], B2, h => by simp at h
  | i :: s1, s2, Bs, b :: B1, B2, h => putL_app s1 s2 (Bs.set i b) B1 B2 (by simpa using h)
theorem set_seg (P A R : List va_W) (x : va_W) (i : Nat) (hi : i < A.length) : (P ++ A ++ R).set (P.length + i) x = P ++ A.set i x ++ R := by
  rw [List.append_assoc, List.set_append, if_neg (by omega), Nat.add_sub_cancel_left, List.set_append, if_pos hi, List.append_assoc]
theorem nd_range87 : va_nd (List.range 87) = true := by decide +kernel
theorem nd_range61 : va_nd (List.range 61) = true := by decide +kernel
section FBS
variable (Y : Nat → ClassId) (ad : Nat → Nat → Nat) (F : Nat → Nat → Nat → Int32)
theorem HB_len : (HB Y ad F).length = 61 := rfl
theorem FB_len : (FB Y ad F).length = 87 := rfl
theorem A1_FB {ad : Nat → Nat → Nat} {F F' : Nat → Nat → Nat → Int32} {Y : Nat → ClassId} : adr (FB Y ad F) = adr (FB Y ad F') := rfl
theorem A1_HB {ad : Nat → Nat → Nat} {F F' : Nat → Nat → Nat → Int32} {Y : Nat → ClassId} : adr (HB Y ad F) = adr (HB Y ad F') := rfl
theorem FB_split : FB Y ad F = HB Y ad F ++ (LB Y (ad 1) (F 1) ++ LB Y (ad 2) (F 2) ++ [fpB ad (F 8 0 1)] ++ [txB Y (ad 7) (F 7)]) := by
  unfold FB; simp only [List.append_assoc]
theorem FB_selH : (List.range 61).map (fun i => (FB Y ad F)[i]?) = (HB Y ad F).map some := by
  have := sel_seg [] (HB Y ad F) (LB Y (ad 1) (F 1) ++ LB Y (ad 2) (F 2) ++ [fpB ad (F 8 0 1)] ++ [txB Y (ad 7) (F 7)])
  rw [List.nil_append, ← FB_split, HB_len] at this
  rw [List.range_eq_range']; exact this
theorem FB_putH (F' : Nat → Nat → Nat → Int32) (h : F' 1 = F 1 ∧ F' 2 = F 2 ∧ F' 7 = F 7 ∧ F' 8 0 1 = F 8 0 1) : putL (FB Y ad F) (List.range 61) (HB Y ad F') = FB Y ad F' := by
  have := putL_seg [] (HB Y ad F) (HB Y ad F') (LB Y (ad 1) (F 1) ++ LB Y (ad 2) (F 2) ++ [fpB ad (F 8 0 1)] ++ [txB Y (ad 7) (F 7)]) rfl
  rw [List.nil_append, ← FB_split, HB_len, List.nil_append] at this
  rw [List.range_eq_range']
  rw [FB_split Y ad F', h.1, h.2.1, h.2.2.1, h.2.2.2]
  exact this
theorem FB_0_e : FB Y ad F = ([hbB Y ad (F 8)]) ++ LB Y (ad 0) (F 0) ++ (LB Y (ad 3) (F 3) ++ LB Y (ad 4) (F 4) ++ LB Y (ad 5) (F 5) ++ LB Y (ad 6) (F 6) ++ LB Y (ad 1) (F 1) ++ LB Y (ad 2) (F 2) ++ [fpB ad (F 8 0 1)] ++ [txB Y (ad 7) (F 7)]) := by
  unfold FB HB; simp only [List.append_assoc, List.append_nil]
theorem FB_0_s : (List.range' 1 12).map (fun i => (FB Y ad F)[i]?) = (LB Y (ad 0) (F 0)).map some := by
  rw [FB_0_e]; exact sel_seg ([hbB Y ad (F 8)]) (LB Y (ad 0) (F 0)) (LB Y (ad 3) (F 3) ++ LB Y (ad 4) (F 4) ++ LB Y (ad 5) (F 5) ++ LB Y (ad 6) (F 6) ++ LB Y (ad 1) (F 1) ++ LB Y (ad 2) (F 2) ++ [fpB ad (F 8 0 1)] ++ [txB Y (ad 7) (F 7)])
theorem FB_0_p (V : Nat → Nat → Int32) : putL (FB Y ad F) (List.range' 1 12) (LB Y (ad 0) V) = FB Y ad (setF F 0 V) := by
  have h := putL_seg ([hbB Y ad (F 8)]) (LB Y (ad 0) (F 0)) (LB Y (ad 0) V) (LB Y (ad 3) (F 3) ++ LB Y (ad 4) (F 4) ++ LB Y (ad 5) (F 5) ++ LB Y (ad 6) (F 6) ++ LB Y (ad 1) (F 1) ++ LB Y (ad 2) (F 2) ++ [fpB ad (F 8 0 1)] ++ [txB Y (ad 7) (F 7)]) rfl
  rw [FB_0_e Y ad F, FB_0_e Y ad (setF F 0 V)]
  simp only [setF_eq, setF_ne (show (1 : Nat) ≠ 0 by decide), setF_ne (show (2 : Nat) ≠ 0 by decide), setF_ne (show (3 : Nat) ≠ 0 by decide), setF_ne (show (4 : Nat) ≠ 0 by decide), setF_ne (show (5 : Nat) ≠ 0 by decide), setF_ne (show (6 : Nat) ≠ 0 by decide), setF_ne (show (7 : Nat) ≠ 0 by decide), setF_ne (show (8 : Nat) ≠ 0 by decide)]
  exact h
theorem FB_0_w {i : Nat} {x : va_W} {V : Nat → Nat → Int32} (hi : i < 12) (h : (LB Y (ad 0) (F 0)).set i x = LB Y (ad 0) V) : (FB Y ad F).set (1 + i) x = FB Y ad (setF F 0 V) := by
  have h9 := set_seg ([hbB Y ad (F 8)]) (LB Y (ad 0) (F 0)) (LB Y (ad 3) (F 3) ++ LB Y (ad 4) (F 4) ++ LB Y (ad 5) (F 5) ++ LB Y (ad 6) (F 6) ++ LB Y (ad 1) (F 1) ++ LB Y (ad 2) (F 2) ++ [fpB ad (F 8 0 1)] ++ [txB Y (ad 7) (F 7)]) x i hi
  rw [h] at h9
  rw [FB_0_e Y ad F, FB_0_e Y ad (setF F 0 V)]
  simp only [setF_eq, setF_ne (show (1 : Nat) ≠ 0 by decide), setF_ne (show (2 : Nat) ≠ 0 by decide), setF_ne (show (3 : Nat) ≠ 0 by decide), setF_ne (show (4 : Nat) ≠ 0 by decide), setF_ne (show (5 : Nat) ≠ 0 by decide), setF_ne (show (6 : Nat) ≠ 0 by decide), setF_ne (show (7 : Nat) ≠ 0 by decide), setF_ne (show (8 : Nat) ≠ 0 by decide)]
  exact h9
theorem FB_1_e : FB Y ad F = ([hbB Y ad (F 8)] ++ LB Y (ad 0) (F 0) ++ LB Y (ad 3) (F 3) ++ LB Y (ad 4) (F 4) ++ LB Y (ad 5) (F 5) ++ LB Y (ad 6) (F 6)) ++ LB Y (ad 1) (F 1) ++ (LB Y (ad 2) (F 2) ++ [fpB ad (F 8 0 1)] ++ [txB Y (ad 7) (F 7)]) := by
  unfold FB HB; simp only [List.append_assoc, List.append_nil]
theorem FB_1_s : (List.range' 61 12).map (fun i => (FB Y ad F)[i]?) = (LB Y (ad 1) (F 1)).map some := by
  rw [FB_1_e]; exact sel_seg ([hbB Y ad (F 8)] ++ LB Y (ad 0) (F 0) ++ LB Y (ad 3) (F 3) ++ LB Y (ad 4) (F 4) ++ LB Y (ad 5) (F 5) ++ LB Y (ad 6) (F 6)) (LB Y (ad 1) (F 1)) (LB Y (ad 2) (F 2) ++ [fpB ad (F 8 0 1)] ++ [txB Y (ad 7) (F 7)])
theorem FB_1_p (V : Nat → Nat → Int32) : putL (FB Y ad F) (List.range' 61 12) (LB Y (ad 1) V) = FB Y ad (setF F 1 V) := by
  have h := putL_seg ([hbB Y ad (F 8)] ++ LB Y (ad 0) (F 0) ++ LB Y (ad 3) (F 3) ++ LB Y (ad 4) (F 4) ++ LB Y (ad 5) (F 5) ++ LB Y (ad 6) (F 6)) (LB Y (ad 1) (F 1)) (LB Y (ad 1) V) (LB Y (ad 2) (F 2) ++ [fpB ad (F 8 0 1)] ++ [txB Y (ad 7) (F 7)]) rfl
  rw [FB_1_e Y ad F, FB_1_e Y ad (setF F 1 V)]
  simp only [setF_eq, setF_ne (show (0 : Nat) ≠ 1 by decide), setF_ne (show (2 : Nat) ≠ 1 by decide), setF_ne (show (3 : Nat) ≠ 1 by decide), setF_ne (show (4 : Nat) ≠ 1 by decide), setF_ne (show (5 : Nat) ≠ 1 by decide), setF_ne (show (6 : Nat) ≠ 1 by decide), setF_ne (show (7 : Nat) ≠ 1 by decide), setF_ne (show (8 : Nat) ≠ 1 by decide)]
  exact h
theorem FB_1_w {i : Nat} {x : va_W} {V : Nat → Nat → Int32} (hi : i < 12) (h : (LB Y (ad 1) (F 1)).set i x = LB Y (ad 1) V) : (FB Y ad F).set (61 + i) x = FB Y ad (setF F 1 V) := by
  have h9 := set_seg ([hbB Y ad (F 8)] ++ LB Y (ad 0) (F 0) ++ LB Y (ad 3) (F 3) ++ LB Y (ad 4) (F 4) ++ LB Y (ad 5) (F 5) ++ LB Y (ad 6) (F 6)) (LB Y (ad 1) (F 1)) (LB Y (ad 2) (F 2) ++ [fpB ad (F 8 0 1)] ++ [txB Y (ad 7) (F 7)]) x i hi
  rw [h] at h9
  rw [FB_1_e Y ad F, FB_1_e Y ad (setF F 1 V)]
  simp only [setF_eq, setF_ne (show (0 : Nat) ≠ 1 by decide), setF_ne (show (2 : Nat) ≠ 1 by decide), setF_ne (show (3 : Nat) ≠ 1 by decide), setF_ne (show (4 : Nat) ≠ 1 by decide), setF_ne (show (5 : Nat) ≠ 1 by decide), setF_ne (show (6 : Nat) ≠ 1 by decide), setF_ne (show (7 : Nat) ≠ 1 by decide), setF_ne (show (8 : Nat) ≠ 1 by decide)]
  exact h9
theorem FB_2_e : FB Y ad F = ([hbB Y ad (F 8)] ++ LB Y (ad 0) (F 0) ++ LB Y (ad 3) (F 3) ++ LB Y (ad 4) (F 4) ++ LB Y (ad 5) (F 5) ++ LB Y (ad 6) (F 6) ++ LB Y (ad 1) (F 1)) ++ LB Y (ad 2) (F 2) ++ ([fpB ad (F 8 0 1)] ++ [txB Y (ad 7) (F 7)]) := by
  unfold FB HB; simp only [List.append_assoc, List.append_nil]
theorem FB_2_s : (List.range' 73 12).map (fun i => (FB Y ad F)[i]?) = (LB Y (ad 2) (F 2)).map some := by
  rw [FB_2_e]; exact sel_seg ([hbB Y ad (F 8)] ++ LB Y (ad 0) (F 0) ++ LB Y (ad 3) (F 3) ++ LB Y (ad 4) (F 4) ++ LB Y (ad 5) (F 5) ++ LB Y (ad 6) (F 6) ++ LB Y (ad 1) (F 1)) (LB Y (ad 2) (F 2)) ([fpB ad (F 8 0 1)] ++ [txB Y (ad 7) (F 7)])
theorem FB_2_p (V : Nat → Nat → Int32) : putL (FB Y ad F) (List.range' 73 12) (LB Y (ad 2) V) = FB Y ad (setF F 2 V) := by
  have h := putL_seg ([hbB Y ad (F 8)] ++ LB Y (ad 0) (F 0) ++ LB Y (ad 3) (F 3) ++ LB Y (ad 4) (F 4) ++ LB Y (ad 5) (F 5) ++ LB Y (ad 6) (F 6) ++ LB Y (ad 1) (F 1)) (LB Y (ad 2) (F 2)) (LB Y (ad 2) V) ([fpB ad (F 8 0 1)] ++ [txB Y (ad 7) (F 7)]) rfl
  rw [FB_2_e Y ad F, FB_2_e Y ad (setF F 2 V)]
  simp only [setF_eq, setF_ne (show (0 : Nat) ≠ 2 by decide), setF_ne (show (1 : Nat) ≠ 2 by decide), setF_ne (show (3 : Nat) ≠ 2 by decide), setF_ne (show (4 : Nat) ≠ 2 by decide), setF_ne (show (5 : Nat) ≠ 2 by decide), setF_ne (show (6 : Nat) ≠ 2 by decide), setF_ne (show (7 : Nat) ≠ 2 by decide), setF_ne (show (8 : Nat) ≠ 2 by decide)]
  exact h
theorem FB_2_w {i : Nat} {x : va_W} {V : Nat → Nat → Int32} (hi : i < 12) (h : (LB Y (ad 2) (F 2)).set i x = LB Y (ad 2) V) : (FB Y ad F).set (73 + i) x = FB Y ad (setF F 2 V) := by
  have h9 := set_seg ([hbB Y ad (F 8)] ++ LB Y (ad 0) (F 0) ++ LB Y (ad 3) (F 3) ++ LB Y (ad 4) (F 4) ++ LB Y (ad 5) (F 5) ++ LB Y (ad 6) (F 6) ++ LB Y (ad 1) (F 1)) (LB Y (ad 2) (F 2)) ([fpB ad (F 8 0 1)] ++ [txB Y (ad 7) (F 7)]) x i hi
  rw [h] at h9
  rw [FB_2_e Y ad F, FB_2_e Y ad (setF F 2 V)]
  simp only [setF_eq, setF_ne (show (0 : Nat) ≠ 2 by decide), setF_ne (show (1 : Nat) ≠ 2 by decide), setF_ne (show (3 : Nat) ≠ 2 by decide), setF_ne (show (4 : Nat) ≠ 2 by decide), setF_ne (show (5 : Nat) ≠ 2 by decide), setF_ne (show (6 : Nat) ≠ 2 by decide), setF_ne (show (7 : Nat) ≠ 2 by decide), setF_ne (show (8 : Nat) ≠ 2 by decide)]
  exact h9
theorem HB_0_e : HB Y ad F = ([hbB Y ad (F 8)]) ++ LB Y (ad 0) (F 0) ++ (LB Y (ad 3) (F 3) ++ LB Y (ad 4) (F 4) ++ LB Y (ad 5) (F 5) ++ LB Y (ad 6) (F 6)) := by
  unfold HB; simp only [List.append_assoc, List.append_nil]
theorem HB_0_s : (List.range' 1 12).map (fun i => (HB Y ad F)[i]?) = (LB Y (ad 0) (F 0)).map some := by
  rw [HB_0_e]; exact sel_seg ([hbB Y ad (F 8)]) (LB Y (ad 0) (F 0)) (LB Y (ad 3) (F 3) ++ LB Y (ad 4) (F 4) ++ LB Y (ad 5) (F 5) ++ LB Y (ad 6) (F 6))
theorem HB_0_p (V : Nat → Nat → Int32) : putL (HB Y ad F) (List.range' 1 12) (LB Y (ad 0) V) = HB Y ad (setF F 0 V) := by
  have h := putL_seg ([hbB Y ad (F 8)]) (LB Y (ad 0) (F 0)) (LB Y (ad 0) V) (LB Y (ad 3) (F 3) ++ LB Y (ad 4) (F 4) ++ LB Y (ad 5) (F 5) ++ LB Y (ad 6) (F 6)) rfl
  rw [HB_0_e Y ad F, HB_0_e Y ad (setF F 0 V)]
  simp only [setF_eq, setF_ne (show (1 : Nat) ≠ 0 by decide), setF_ne (show (2 : Nat) ≠ 0 by decide), setF_ne (show (3 : Nat) ≠ 0 by decide), setF_ne (show (4 : Nat) ≠ 0 by decide), setF_ne (show (5 : Nat) ≠ 0 by decide), setF_ne (show (6 : Nat) ≠ 0 by decide), setF_ne (show (7 : Nat) ≠ 0 by decide), setF_ne (show (8 : Nat) ≠ 0 by decide)]
  exact h
theorem HB_0_w {i : Nat} {x : va_W} {V : Nat → Nat → Int32} (hi : i < 12) (h : (LB Y (ad 0) (F 0)).set i x = LB Y (ad 0) V) : (HB Y ad F).set (1 + i) x = HB Y ad (setF F 0 V) := by
  have h9 := set_seg ([hbB Y ad (F 8)]) (LB Y (ad 0) (F 0)) (LB Y (ad 3) (F 3) ++ LB Y (ad 4) (F 4) ++ LB Y (ad 5) (F 5) ++ LB Y (ad 6) (F 6)) x i hi
  rw [h] at h9
  rw [HB_0_e Y ad F, HB_0_e Y ad (setF F 0 V)]
  simp only [setF_eq, setF_ne (show (1 : Nat) ≠ 0 by decide), setF_ne (show (2 : Nat) ≠ 0 by decide), setF_ne (show (3 : Nat) ≠ 0 by decide), setF_ne (show (4 : Nat) ≠ 0 by decide), setF_ne (show (5 : Nat) ≠ 0 by decide), setF_ne (show (6 : Nat) ≠ 0 by decide), setF_ne (show (7 : Nat) ≠ 0 by decide), setF_ne (show (8 : Nat) ≠ 0 by decide)]
  exact h9
theorem HB_3_e : HB Y ad F = ([hbB Y ad (F 8)] ++ LB Y (ad 0) (F 0)) ++ LB Y (ad 3) (F 3) ++ (LB Y (ad 4) (F 4) ++ LB Y (ad 5) (F 5) ++ LB Y (ad 6) (F 6)) := by
  unfold HB; simp only [List.append_assoc, List.append_nil]
theorem HB_3_s : (List.range' 13 12).map (fun i => (HB Y ad F)[i]?) = (LB Y (ad 3) (F 3)).map some := by
  rw [HB_3_e]; exact sel_seg ([hbB Y ad (F 8)] ++ LB Y (ad 0) (F 0)) (LB Y (ad 3) (F 3)) (LB Y (ad 4) (F 4) ++ LB Y (ad 5) (F 5) ++ LB Y (ad 6) (F 6))
theorem HB_3_p (V : Nat → Nat → Int32) : putL (HB Y ad F) (List.range' 13 12) (LB Y (ad 3) V) = HB Y ad (setF F 3 V) := by
  have h := putL_seg ([hbB Y ad (F 8)] ++ LB Y (ad 0) (F 0)) (LB Y (ad 3) (F 3)) (LB Y (ad 3) V) (LB Y (ad 4) (F 4) ++ LB Y (ad 5) (F 5) ++ LB Y (ad 6) (F 6)) rfl
  rw [HB_3_e Y ad F, HB_3_e Y ad (setF F 3 V)]
  simp only [setF_eq, setF_ne (show (0 : Nat) ≠ 3 by decide), setF_ne (show (1 : Nat) ≠ 3 by decide), setF_ne (show (2 : Nat) ≠ 3 by decide), setF_ne (show (4 : Nat) ≠ 3 by decide), setF_ne (show (5 : Nat) ≠ 3 by decide), setF_ne (show (6 : Nat) ≠ 3 by decide), setF_ne (show (7 : Nat) ≠ 3 by decide), setF_ne (show (8 : Nat) ≠ 3 by decide)]
  exact h
theorem HB_3_w {i : Nat} {x : va_W} {V : Nat → Nat → Int32} (hi : i < 12) (h : (LB Y (ad 3) (F 3)).set i x = LB Y (ad 3) V) : (HB Y ad F).set (13 + i) x = HB Y ad (setF F 3 V) := by
  have h9 := set_seg ([hbB Y ad (F 8)] ++ LB Y (ad 0) (F 0)) (LB Y (ad 3) (F 3)) (LB Y (ad 4) (F 4) ++ LB Y (ad 5) (F 5) ++ LB Y (ad 6) (F 6)) x i hi
  rw [h] at h9
  rw [HB_3_e Y ad F, HB_3_e Y ad (setF F 3 V)]
  simp only [setF_eq, setF_ne (show (0 : Nat) ≠ 3 by decide), setF_ne (show (1 : Nat) ≠ 3 by decide), setF_ne (show (2 : Nat) ≠ 3 by decide), setF_ne (show (4 : Nat) ≠ 3 by decide), setF_ne (show (5 : Nat) ≠ 3 by decide), setF_ne (show (6 : Nat) ≠ 3 by decide), setF_ne (show (7 : Nat) ≠ 3 by decide), setF_ne (show (8 : Nat) ≠ 3 by decide)]
  exact h9
theorem HB_4_e : HB Y ad F = ([hbB Y ad (F 8)] ++ LB Y (ad 0) (F 0) ++ LB Y (ad 3) (F 3)) ++ LB Y (ad 4) (F 4) ++ (LB Y (ad 5) (F 5) ++ LB Y (ad 6) (F 6)) := by
  unfold HB; simp only [List.append_assoc, List.append_nil]
theorem HB_4_s : (List.range' 25 12).map (fun i => (HB Y ad F)[i]?) = (LB Y (ad 4) (F 4)).map some := by
  rw [HB_4_e]; exact sel_seg ([hbB Y ad (F 8)] ++ LB Y (ad 0) (F 0) ++ LB Y (ad 3) (F 3)) (LB Y (ad 4) (F 4)) (LB Y (ad 5) (F 5) ++ LB Y (ad 6) (F 6))
theorem HB_4_p (V : Nat → Nat → Int32) : putL (HB Y ad F) (List.range' 25 12) (LB Y (ad 4) V) = HB Y ad (setF F 4 V) := by
  have h := putL_seg ([hbB Y ad (F 8)] ++ LB Y (ad 0) (F 0) ++ LB Y (ad 3) (F 3)) (LB Y (ad 4) (F 4)) (LB Y (ad 4) V) (LB Y (ad 5) (F 5) ++ LB Y (ad 6) (F 6)) rfl
  rw [HB_4_e Y ad F, HB_4_e Y ad (setF F 4 V)]
  simp only [setF_eq, setF_ne (show (0 : Nat) ≠ 4 by decide), setF_ne (show (1 : Nat) ≠ 4 by decide), setF_ne (show (2 : Nat) ≠ 4 by decide), setF_ne (show (3 : Nat) ≠ 4 by decide), setF_ne (show (5 : Nat) ≠ 4 by decide), setF_ne (show (6 : Nat) ≠ 4 by decide), setF_ne (show (7 : Nat) ≠ 4 by decide), setF_ne (show (8 : Nat) ≠ 4 by decide)]
  exact h
theorem HB_4_w {i : Nat} {x : va_W} {V : Nat → Nat → Int32} (hi : i < 12) (h : (LB Y (ad 4) (F 4)).set i x = LB Y (ad 4) V) : (HB Y ad F).set (25 + i) x = HB Y ad (setF F 4 V) := by
  have h9 := set_seg ([hbB Y ad (F 8)] ++ LB Y (ad 0) (F 0) ++ LB Y (ad 3) (F 3)) (LB Y (ad 4) (F 4)) (LB Y (ad 5) (F 5) ++ LB Y (ad 6) (F 6)) x i hi
  rw [h] at h9
  rw [HB_4_e Y ad F, HB_4_e Y ad (setF F 4 V)]
  simp only [setF_eq, setF_ne (show (0 : Nat) ≠ 4 by decide), setF_ne (show (1 : Nat) ≠ 4 by decide), setF_ne (show (2 : Nat) ≠ 4 by decide), setF_ne (show (3 : Nat) ≠ 4 by decide), setF_ne (show (5 : Nat) ≠ 4 by decide), setF_ne (show (6 : Nat) ≠ 4 by decide), setF_ne (show (7 : Nat) ≠ 4 by decide), setF_ne (show (8 : Nat) ≠ 4 by decide)]
  exact h9
theorem HB_5_e : HB Y ad F = ([hbB Y ad (F 8)] ++ LB Y (ad 0) (F 0) ++ LB Y (ad 3) (F 3) ++ LB Y (ad 4) (F 4)) ++ LB Y (ad 5) (F 5) ++ (LB Y (ad 6) (F 6)) := by
  unfold HB; simp only [List.append_assoc, List.append_nil]
theorem HB_5_s : (List.range' 37 12).map (fun i => (HB Y ad F)[i]?) = (LB Y (ad 5) (F 5)).map some := by
  rw [HB_5_e]; exact sel_seg ([hbB Y ad (F 8)] ++ LB Y (ad 0) (F 0) ++ LB Y (ad 3) (F 3) ++ LB Y (ad 4) (F 4)) (LB Y (ad 5) (F 5)) (LB Y (ad 6) (F 6))
theorem HB_5_p (V : Nat → Nat → Int32) : putL (HB Y ad F) (List.range' 37 12) (LB Y (ad 5) V) = HB Y ad (setF F 5 V) := by
  have h := putL_seg ([hbB Y ad (F 8)] ++ LB Y (ad 0) (F 0) ++ LB Y (ad 3) (F 3) ++ LB Y (ad 4) (F 4)) (LB Y (ad 5) (F 5)) (LB Y (ad 5) V) (LB Y (ad 6) (F 6)) rfl
  rw [HB_5_e Y ad F, HB_5_e Y ad (setF F 5 V)]
  simp only [setF_eq, setF_ne (show (0 : Nat) ≠ 5 by decide), setF_ne (show (1 : Nat) ≠ 5 by decide), setF_ne (show (2 : Nat) ≠ 5 by decide), setF_ne (show (3 : Nat) ≠ 5 by decide), setF_ne (show (4 : Nat) ≠ 5 by decide), setF_ne (show (6 : Nat) ≠ 5 by decide), setF_ne (show (7 : Nat) ≠ 5 by decide), setF_ne (show (8 : Nat) ≠ 5 by decide)]
  exact h
theorem HB_5_w {i : Nat} {x : va_W} {V : Nat → Nat → Int32} (hi : i < 12) (h : (LB Y (ad 5) (F 5)).set i x = LB Y (ad 5) V) : (HB Y ad F).set (37 + i) x = HB Y ad (setF F 5 V) := by
  have h9 := set_seg ([hbB Y ad (F 8)] ++ LB Y (ad 0) (F 0) ++ LB Y (ad 3) (F 3) ++ LB Y (ad 4) (F 4)) (LB Y (ad 5) (F 5)) (LB Y (ad 6) (F 6)) x i hi
  rw [h] at h9
  rw [HB_5_e Y ad F, HB_5_e Y ad (setF F 5 V)]
  simp only [setF_eq, setF_ne (show (0 : Nat) ≠ 5 by decide), setF_ne (show (1 : Nat) ≠ 5 by decide), setF_ne (show (2 : Nat) ≠ 5 by decide), setF_ne (show (3 : Nat) ≠ 5 by decide), setF_ne (show (4 : Nat) ≠ 5 by decide), setF_ne (show (6 : Nat) ≠ 5 by decide), setF_ne (show (7 : Nat) ≠ 5 by decide), setF_ne (show (8 : Nat) ≠ 5 by decide)]
  exact h9
theorem HB_6_e : HB Y ad F = ([hbB Y ad (F 8)] ++ LB Y (ad 0) (F 0) ++ LB Y (ad 3) (F 3) ++ LB Y (ad 4) (F 4) ++ LB Y (ad 5) (F 5)) ++ LB Y (ad 6) (F 6) ++ ([]) := by
  unfold HB; simp only [List.append_assoc, List.append_nil]
theorem HB_6_s : (List.range' 49 12).map (fun i => (HB Y ad F)[i]?) = (LB Y (ad 6) (F 6)).map some := by
  rw [HB_6_e]; exact sel_seg ([hbB Y ad (F 8)] ++ LB Y (ad 0) (F 0) ++ LB Y (ad 3) (F 3) ++ LB Y (ad 4) (F 4) ++ LB Y (ad 5) (F 5)) (LB Y (ad 6) (F 6)) ([])
theorem HB_6_p (V : Nat → Nat → Int32) : putL (HB Y ad F) (List.range' 49 12) (LB Y (ad 6) V) = HB Y ad (setF F 6 V) := by
  have h := putL_seg ([hbB Y ad (F 8)] ++ LB Y (ad 0) (F 0) ++ LB Y (ad 3) (F 3) ++ LB Y (ad 4) (F 4) ++ LB Y (ad 5) (F 5)) (LB Y (ad 6) (F 6)) (LB Y (ad 6) V) ([]) rfl
  rw [HB_6_e Y ad F, HB_6_e Y ad (setF F 6 V)]
  simp only [setF_eq, setF_ne (show (0 : Nat) ≠ 6 by decide), setF_ne (show (1 : Nat) ≠ 6 by decide), setF_ne (show (2 : Nat) ≠ 6 by decide), setF_ne (show (3 : Nat) ≠ 6 by decide), setF_ne (show (4 : Nat) ≠ 6 by decide), setF_ne (show (5 : Nat) ≠ 6 by decide), setF_ne (show (7 : Nat) ≠ 6 by decide), setF_ne (show (8 : Nat) ≠ 6 by decide)]
  exact h
theorem HB_6_w {i : Nat} {x : va_W} {V : Nat → Nat → Int32} (hi : i < 12) (h : (LB Y (ad 6) (F 6)).set i x = LB Y (ad 6) V) : (HB Y ad F).set (49 + i) x = HB Y ad (setF F 6 V) := by
  have h9 := set_seg ([hbB Y ad (F 8)] ++ LB Y (ad 0) (F 0) ++ LB Y (ad 3) (F 3) ++ LB Y (ad 4) (F 4) ++ LB Y (ad 5) (F 5)) (LB Y (ad 6) (F 6)) ([]) x i hi
  rw [h] at h9
  rw [HB_6_e Y ad F, HB_6_e Y ad (setF F 6 V)]
  simp only [setF_eq, setF_ne (show (0 : Nat) ≠ 6 by decide), setF_ne (show (1 : Nat) ≠ 6 by decide), setF_ne (show (2 : Nat) ≠ 6 by decide), setF_ne (show (3 : Nat) ≠ 6 by decide), setF_ne (show (4 : Nat) ≠ 6 by decide), setF_ne (show (5 : Nat) ≠ 6 by decide), setF_ne (show (7 : Nat) ≠ 6 by decide), setF_ne (show (8 : Nat) ≠ 6 by decide)]
  exact h9
theorem FB_p10 (V : Nat → Nat → Int32) : putL (FB Y ad F) (List.range' 61 12 ++ List.range' 1 12) (LB Y (ad 1) V ++ LB Y (ad 0) (F 0)) = FB Y ad (setF F 1 V) := by
  rw [putL_app _ _ _ _ _ rfl, FB_1_p]
  exact putL_same (FB_0_s Y ad (setF F 1 V))
theorem FB_s10 : (List.range' 61 12 ++ List.range' 1 12).map (fun i => (FB Y ad F)[i]?) = (LB Y (ad 1) (F 1) ++ LB Y (ad 0) (F 0)).map some := by
  rw [List.map_append, List.map_append, FB_1_s, FB_0_s]
theorem FB_p20 (V : Nat → Nat → Int32) : putL (FB Y ad F) (List.range' 73 12 ++ List.range' 1 12) (LB Y (ad 2) V ++ LB Y (ad 0) (F 0)) = FB Y ad (setF F 2 V) := by
  rw [putL_app _ _ _ _ _ rfl, FB_2_p]
  exact putL_same (FB_0_s Y ad (setF F 2 V))
theorem FB_s20 : (List.range' 73 12 ++ List.range' 1 12).map (fun i => (FB Y ad F)[i]?) = (LB Y (ad 2) (F 2) ++ LB Y (ad 0) (F 0)).map some := by
  rw [List.map_append, List.map_append, FB_2_s, FB_0_s]
theorem FB_p12 (V : Nat → Nat → Int32) : putL (FB Y ad F) (List.range' 61 12 ++ List.range' 73 12) (LB Y (ad 1) V ++ LB Y (ad 2) (F 2)) = FB Y ad (setF F 1 V) := by
  rw [putL_app _ _ _ _ _ rfl, FB_1_p]
  exact putL_same (FB_2_s Y ad (setF F 1 V))
theorem FB_s12 : (List.range' 61 12 ++ List.range' 73 12).map (fun i => (FB Y ad F)[i]?) = (LB Y (ad 1) (F 1) ++ LB Y (ad 2) (F 2)).map some := by
  rw [List.map_append, List.map_append, FB_1_s, FB_2_s]
theorem FB_p01 (V : Nat → Nat → Int32) : putL (FB Y ad F) (List.range' 1 12 ++ List.range' 61 12) (LB Y (ad 0) V ++ LB Y (ad 1) (F 1)) = FB Y ad (setF F 0 V) := by
  rw [putL_app _ _ _ _ _ rfl, FB_0_p]
  exact putL_same (FB_1_s Y ad (setF F 0 V))
theorem FB_s01 : (List.range' 1 12 ++ List.range' 61 12).map (fun i => (FB Y ad F)[i]?) = (LB Y (ad 0) (F 0) ++ LB Y (ad 1) (F 1)).map some := by
  rw [List.map_append, List.map_append, FB_0_s, FB_1_s]
theorem FB_w85 (x : Int32) : (FB Y ad F).set 85 (fpB ad x) = FB Y ad (setF F 8 (up1 (F 8) 0 1 x)) := by
  have h9 := set_seg (HB Y ad F ++ LB Y (ad 1) (F 1) ++ LB Y (ad 2) (F 2)) [fpB ad (F 8 0 1)] [txB Y (ad 7) (F 7)] (fpB ad x) 0 Nat.one_pos
  exact h9
theorem FB_w86 (T : Nat → Nat → Int32) : (FB Y ad F).set 86 (txB Y (ad 7) T) = FB Y ad (setF F 7 T) := by
  have h9 := set_seg (HB Y ad F ++ LB Y (ad 1) (F 1) ++ LB Y (ad 2) (F 2) ++ [fpB ad (F 8 0 1)]) [txB Y (ad 7) (F 7)] [] (txB Y (ad 7) T) 0 Nat.one_pos
  rw [List.append_nil, List.append_nil] at h9
  exact h9
theorem FB_lk0 {k : Nat} (h : k < 7) : (FB Y ad F)[(4 + k)]? = some (lkB (Y 0) (ad 0 (13 + 2 * k)) (ad 0 (14 + 2 * k)) (F 0 (11 + k)) (F 0 (18 + k))) := by
  match k, h with
  | 0, _ | 1, _ | 2, _ | 3, _ | 4, _ | 5, _ | 6, _ => rfl
theorem FB_lkS0 {k : Nat} (h : k < 7) : [(4 + k)].map (fun i => (FB Y ad F)[i]?) = [lkB (Y 0) (ad 0 (13 + 2 * k)) (ad 0 (14 + 2 * k)) (lkU (F 0) k 0) (lkU (F 0) k 1)].map some := by
  rw [List.map_cons, FB_lk0 Y ad F h]; rfl
theorem FB_lkG0 {k : Nat} (h : k < 7) (G : Nat → Int32) : (FB Y ad F).set (4 + k) (lkB (Y 0) (ad 0 (13 + 2 * k)) (ad 0 (14 + 2 * k)) (F 0 (11 + k)) G) = FB Y ad (setF F 0 (setC (F 0) (18 + k) G)) := by
  have h9 := FB_0_w Y ad F (i := 3 + k) (by omega) (LB_lkG Y (ad 0) (F 0) h G)
  rw [show 1 + (3 + k) = 4 + k by omega] at h9
  exact h9
theorem FB_lk1 {k : Nat} (h : k < 7) : (FB Y ad F)[(64 + k)]? = some (lkB (Y 0) (ad 1 (13 + 2 * k)) (ad 1 (14 + 2 * k)) (F 1 (11 + k)) (F 1 (18 + k))) := by
  match k, h with
  | 0, _ | 1, _ | 2, _ | 3, _ | 4, _ | 5, _ | 6, _ => rfl
theorem FB_lkS1 {k : Nat} (h : k < 7) : [(64 + k)].map (fun i => (FB Y ad F)[i]?) = [lkB (Y 0) (ad 1 (13 + 2 * k)) (ad 1 (14 + 2 * k)) (lkU (F 1) k 0) (lkU (F 1) k 1)].map some := by
  rw [List.map_cons, FB_lk1 Y ad F h]; rfl
theorem FB_lkG1 {k : Nat} (h : k < 7) (G : Nat → Int32) : (FB Y ad F).set (64 + k) (lkB (Y 0) (ad 1 (13 + 2 * k)) (ad 1 (14 + 2 * k)) (F 1 (11 + k)) G) = FB Y ad (setF F 1 (setC (F 1) (18 + k) G)) := by
  have h9 := FB_1_w Y ad F (i := 3 + k) (by omega) (LB_lkG Y (ad 1) (F 1) h G)
  rw [show 61 + (3 + k) = 64 + k by omega] at h9
  exact h9
theorem FB_rw0 {k : Nat} (h : k < 2) : (FB Y ad F)[(11 + k)]? = some (rwB (Y 0) (ad 0 (27 + 2 * k)) (ad 0 (28 + 2 * k)) (F 0 (27 + k)) (F 0 (25 + k))) := by
  match k, h with
  | 0, _ | 1, _ => rfl
theorem FB_rwS0 {k : Nat} (h : k < 2) : [(11 + k)].map (fun i => (FB Y ad F)[i]?) = [rwB (Y 0) (ad 0 (27 + 2 * k)) (ad 0 (28 + 2 * k)) (rwU (F 0) k 0) (rwU (F 0) k 1)].map some := by
  rw [List.map_cons, FB_rw0 Y ad F h]; rfl
theorem HB_ln {q : Nat} (h : q < 4) : (HB Y ad F)[(13 + 12 * q)]? = some (lnB Y (ad (3 + q)) (F (3 + q) 0) (F (3 + q) 1) (F (3 + q) 2) (F (3 + q) 3)) := by
  match q, h with
  | 0, _ | 1, _ | 2, _ | 3, _ => rfl
abbrev hbq_ (q : Nat) : List Nat := List.range' (13 + 12 * q) 12
abbrev hb0_ : List Nat := List.range' 1 12
theorem HB_nd1 {q : Nat} (h : q < 4) : va_nd (hbq_ q ++ hb0_) = true := by
  match q, h with
  | 0, _ | 1, _ | 2, _ | 3, _ => decide +kernel
theorem HB_nd2 {q : Nat} (h : q < 4) : va_nd (hb0_ ++ hbq_ q) = true := by
  match q, h with
  | 0, _ | 1, _ | 2, _ | 3, _ => decide +kernel
theorem HB_qs {q : Nat} (h : q < 4) : (hbq_ q).map (fun i => (HB Y ad F)[i]?) = (LB Y (ad (3 + q)) (F (3 + q))).map some := by
  match q, h with
  | 0, _ => exact HB_3_s Y ad F
  | 1, _ => exact HB_4_s Y ad F
  | 2, _ => exact HB_5_s Y ad F
  | 3, _ => exact HB_6_s Y ad F
theorem HB_qp {q : Nat} (h : q < 4) (V : Nat → Nat → Int32) : putL (HB Y ad F) (hbq_ q) (LB Y (ad (3 + q)) V) = HB Y ad (setF F (3 + q) V) := by
  match q, h with
  | 0, _ => exact HB_3_p Y ad F V
  | 1, _ => exact HB_4_p Y ad F V
  | 2, _ => exact HB_5_p Y ad F V
  | 3, _ => exact HB_6_p Y ad F V
theorem HB_s1 {q : Nat} (h : q < 4) : (hbq_ q ++ hb0_).map (fun i => (HB Y ad F)[i]?) = (LB Y (ad (3 + q)) (F (3 + q)) ++ LB Y (ad 0) (F 0)).map some := by
  rw [List.map_append, List.map_append, HB_qs Y ad F h, HB_0_s]
theorem HB_p1 {q : Nat} (h : q < 4) (V : Nat → Nat → Int32) : putL (HB Y ad F) (hbq_ q ++ hb0_) (LB Y (ad (3 + q)) V ++ LB Y (ad 0) (F 0)) = HB Y ad (setF F (3 + q) V) := by
  rw [putL_app _ _ _ _ _ rfl, HB_qp Y ad F h]
  have h9 := HB_0_s Y ad (setF F (3 + q) V)
  rw [setF_ne (show (0 : Nat) ≠ 3 + q by omega)] at h9
  exact putL_same h9
theorem HB_s2 {q : Nat} (h : q < 4) : (hb0_ ++ hbq_ q).map (fun i => (HB Y ad F)[i]?) = (LB Y (ad 0) (F 0) ++ LB Y (ad (3 + q)) (F (3 + q))).map some := by
  rw [List.map_append, List.map_append, HB_qs Y ad F h, HB_0_s]
theorem HB_p2 {q : Nat} (h : q < 4) (V : Nat → Nat → Int32) : putL (HB Y ad F) (hb0_ ++ hbq_ q) (LB Y (ad 0) V ++ LB Y (ad (3 + q)) (F (3 + q))) = HB Y ad (setF F 0 V) := by
  rw [putL_app _ _ _ _ _ rfl, HB_0_p]
  have h9 := HB_qs Y ad (setF F 0 V) h
  rw [setF_ne (show 3 + q ≠ 0 by omega)] at h9
  exact putL_same h9
theorem hsF_up (s : Nat → Int32) (k : Nat) (x : Int32) : va_up (hsF ad s) k (some (ad (3 + tN x) 0)) = hsF ad (upd s k x) := by
  funext j
  by_cases h : j = k
  · subst h; show (if j = j then _ else _) = some (ad (3 + tN (if j = j then x else s j)) 0); rw [if_pos rfl, if_pos rfl]
  · show (if j = k then _ else _) = some (ad (3 + tN (if j = k then x else s j)) 0); rw [if_neg h, if_neg h]
theorem HB_up (k : Nat) (x : Int32) : (HB Y ad F).set 0 [(ad 8 0, .inr (1, [.ref (ad 8 1), .int (F 8 0 0)])), (ad 8 1, ra (Y 2) 4 (va_up (hsF ad (F 8 1)) k (some (ad (3 + tN x) 0))))] = HB Y ad (setF F 8 (up1 (F 8) 1 k x)) := by
  rw [hsF_up]; rfl
end FBS
/-- what the history keeps to: at most 4 states, its order a row of its lines' places -/
abbrev hiOK (F : Nat → Nat → Nat → Int32) : Prop := vp_in (F 8 0 0) 5 ∧ ∀ k : Nat, k < 4 → tN (F 8 1 k) < 4
/-- two flags of a link are 0 or 1 as the machine keeps them -/
abbrev boL (V : Nat → Nat → Int32) : Prop := ∀ k : Nat, k < 7 → blOK (V (11 + k) 6) ∧ blOK (V (11 + k) 7)
