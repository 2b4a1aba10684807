/-! the class's own world -/
def setF (F : Nat → Nat → Nat → Int32) (a : Nat) (V : Nat → Nat → Int32) : Nat → Nat → Nat → Int32 := fun a' => if a' = a then V else F a'
theorem setF_eq (F : Nat → Nat → Nat → Int32) (a : Nat) (V : Nat → Nat → Int32) : setF F a V a = V := if_pos rfl
theorem setF_ne {F : Nat → Nat → Nat → Int32} {a a' : Nat} {V : Nat → Nat → Int32} (h : a' ≠ a) : setF F a V a' = F a' := if_neg h
abbrev hsF (ad : Nat → Nat → Nat) (s : Nat → Int32) : Nat → Option Nat := fun k => some (ad (3 + tN (s k)) 0)
abbrev hbB (Y : Nat → ClassId) (ad : Nat → Nat → Nat) (S : Nat → Nat → Int32) : va_W := [(ad 8 0, .inr (1, [.ref (ad 8 1), .int (S 0 0)])), (ad 8 1, ra (Y 2) 4 (hsF ad (S 1)))]
abbrev fpB (ad : Nat → Nat → Nat) (x : Int32) : va_W := [(ad 8 2, .inr (7, [.ref (ad 0 0), .ref (ad 1 0), .ref (ad 2 0), .int x, .ref (ad 8 0), .ref (ad 7 0)]))]
/-- the history's world: itself, the line that is now, its own four lines -/
def HB (Y : Nat → ClassId) (ad : Nat → Nat → Nat) (F : Nat → Nat → Nat → Int32) : List va_W := [hbB Y ad (F 8)] ++ LB Y (ad 0) (F 0) ++ LB Y (ad 3) (F 3) ++ LB Y (ad 4) (F 4) ++ LB Y (ad 5) (F 5) ++ LB Y (ad 6) (F 6)
def FB (Y : Nat → ClassId) (ad : Nat → Nat → Nat) (F : Nat → Nat → Nat → Int32) : List va_W := HB Y ad F ++ LB Y (ad 1) (F 1) ++ LB Y (ad 2) (F 2) ++ [fpB ad (F 8 0 1)] ++ [txB Y (ad 7) (F 7)]
theorem putL_seg : ∀ (P A A' R : List va_W), A'.length = A.length → putL (P ++ A ++ R) (List.range' P.length A.length) A' = P ++ A' ++ R
  | P, [], A', R, h => by
    have : A' = [] := List.length_eq_zero_iff.mp h
    subst this; rfl
  | P, x :: A, [], R, h => by simp at h
  | P, x :: A, y :: A', R, h => by
    have h2 : A'.length = A.length := by simpa using h
    have e : (P ++ x :: A ++ R).set P.length y = (P ++ [y]) ++ A ++ R := by simp [List.set_append]
    have ih := putL_seg (P ++ [y]) A A' R h2
    show putL ((P ++ x :: A ++ R).set P.length y) (List.range' (P.length + 1) A.length) A' = _
    rw [e]
    have l : (P ++ [y]).length = P.length + 1 := by simp
    rw [l] at ih
    rw [ih]; simp
theorem sel_seg : ∀ (P A R : List va_W), (List.range' P.length A.length).map (fun i => (P ++ A ++ R)[i]?) = A.map some
  | P, [], R => rfl
  | P, x :: A, R => by
    have ih := sel_seg (P ++ [x]) A R
    have l : (P ++ [x]).length = P.length + 1 := by simp
    rw [l] at ih
    have e : P ++ x :: A ++ R = (P ++ [x]) ++ A ++ R := by simp
    show (P ++ x :: A ++ R)[P.length]? :: (List.range' (P.length + 1) A.length).map (fun i => (P ++ x :: A ++ R)[i]?) = some x :: A.map some
    rw [e, ih]
    congr 1
    rw [← e]; simp
theorem sel_all {Bs : List va_W} {n : Nat} (h : Bs.length = n) : (List.range n).map (fun i => Bs[i]?) = Bs.map some := by
  have := sel_seg [] Bs []
  rw [List.range_eq_range', ← h]
  simpa using this
theorem put_all {Bs Bs' : List va_W} {n : Nat} (h : Bs.length = n) (h' : Bs'.length = n) : putL Bs (List.range n) Bs' = Bs' := by
  have := putL_seg [] Bs Bs' [] (by rw [h, h'])
  rw [List.range_eq_range', ← h]
  simpa using this
theorem putL_same : ∀ {sel : List Nat} {Bs Bc : List va_W}, sel.map (fun i => Bs[i]?) = Bc.map some → putL Bs sel Bc = Bs
  | [], Bs, Bc, _ => by cases Bc <;> rfl
  | i :: is, Bs, [], _ => rfl
  | i :: is, Bs, b :: bs, h => by
    simp only [List.map_cons, List.cons.injEq] at h
    have e : Bs.set i b = Bs := by
      apply List.ext_getElem?
      intro k
      by_cases hk : i = k
      · subst hk
        rw [List.getElem?_set_self (List.getElem?_eq_some_iff.mp h.1).1, h.1]
      · rw [List.getElem?_set_ne hk]
    show putL (Bs.set i b) is bs = Bs
    rw [e]; exact putL_same h.2
theorem nd_range87 : va_nd (List.range 87) = true := by decide +kernel
theorem nd_range61 : va_nd (List.range 61) = true := by decide +kernel
section FBS
variable (Y : Nat → ClassId) (ad : Nat → Nat → Nat) (F : Nat → Nat → Nat → Int32)
theorem HB_len : (HB Y ad F).length = 61 := rfl
theorem FB_len : (FB Y ad F).length = 87 := rfl
theorem A1_FB {ad : Nat → Nat → Nat} {F F' : Nat → Nat → Nat → Int32} {Y : Nat → ClassId} : adr (FB Y ad F) = adr (FB Y ad F') := rfl
theorem A1_HB {ad : Nat → Nat → Nat} {F F' : Nat → Nat → Nat → Int32} {Y : Nat → ClassId} : adr (HB Y ad F) = adr (HB Y ad F') := rfl
theorem FB_split : FB Y ad F = HB Y ad F ++ (LB Y (ad 1) (F 1) ++ LB Y (ad 2) (F 2) ++ [fpB ad (F 8 0 1)] ++ [txB Y (ad 7) (F 7)]) := by
  unfold FB; simp only [List.append_assoc]
theorem FB_selH : (List.range 61).map (fun i => (FB Y ad F)[i]?) = (HB Y ad F).map some := by
  have := sel_seg [] (HB Y ad F) (LB Y (ad 1) (F 1) ++ LB Y (ad 2) (F 2) ++ [fpB ad (F 8 0 1)] ++ [txB Y (ad 7) (F 7)])
  rw [List.nil_append, ← FB_split, HB_len] at this
  rw [List.range_eq_range']; exact this
theorem FB_putH (F' : Nat → Nat → Nat → Int32) (h : F' 1 = F 1 ∧ F' 2 = F 2 ∧ F' 7 = F 7 ∧ F' 8 0 1 = F 8 0 1) : putL (FB Y ad F) (List.range 61) (HB Y ad F') = FB Y ad F' := by
  have := putL_seg [] (HB Y ad F) (HB Y ad F') (LB Y (ad 1) (F 1) ++ LB Y (ad 2) (F 2) ++ [fpB ad (F 8 0 1)] ++ [txB Y (ad 7) (F 7)]) rfl
  rw [List.nil_append, ← FB_split, HB_len, List.nil_append] at this
  rw [List.range_eq_range']
  rw [FB_split Y ad F', h.1, h.2.1, h.2.2.1, h.2.2.2]
  exact this
theorem FB_p0 (V : Nat → Nat → Int32) : putL (FB Y ad F) [1, 2, 3, 4, 5, 6, 7, 8, 9, 10, 11, 12] (LB Y (ad 0) V) = FB Y ad (setF F 0 V) := rfl
theorem FB_p1 (V : Nat → Nat → Int32) : putL (FB Y ad F) [61, 62, 63, 64, 65, 66, 67, 68, 69, 70, 71, 72] (LB Y (ad 1) V) = FB Y ad (setF F 1 V) := rfl
theorem FB_p2 (V : Nat → Nat → Int32) : putL (FB Y ad F) [73, 74, 75, 76, 77, 78, 79, 80, 81, 82, 83, 84] (LB Y (ad 2) V) = FB Y ad (setF F 2 V) := rfl
theorem FB_p10 (V : Nat → Nat → Int32) : putL (FB Y ad F) ([61, 62, 63, 64, 65, 66, 67, 68, 69, 70, 71, 72, 1, 2, 3, 4, 5, 6, 7, 8, 9, 10, 11, 12]) (LB Y (ad 1) V ++ LB Y (ad 0) (F 0)) = FB Y ad (setF F 1 V) := rfl
theorem FB_p20 (V : Nat → Nat → Int32) : putL (FB Y ad F) ([73, 74, 75, 76, 77, 78, 79, 80, 81, 82, 83, 84, 1, 2, 3, 4, 5, 6, 7, 8, 9, 10, 11, 12]) (LB Y (ad 2) V ++ LB Y (ad 0) (F 0)) = FB Y ad (setF F 2 V) := rfl
theorem FB_p12 (V : Nat → Nat → Int32) : putL (FB Y ad F) ([61, 62, 63, 64, 65, 66, 67, 68, 69, 70, 71, 72, 73, 74, 75, 76, 77, 78, 79, 80, 81, 82, 83, 84]) (LB Y (ad 1) V ++ LB Y (ad 2) (F 2)) = FB Y ad (setF F 1 V) := rfl
theorem FB_p01 (V : Nat → Nat → Int32) : putL (FB Y ad F) ([1, 2, 3, 4, 5, 6, 7, 8, 9, 10, 11, 12, 61, 62, 63, 64, 65, 66, 67, 68, 69, 70, 71, 72]) (LB Y (ad 0) V ++ LB Y (ad 1) (F 1)) = FB Y ad (setF F 0 V) := rfl
theorem FB_lk0 {k : Nat} (h : k < 7) : (FB Y ad F)[(4 + k)]? = some (lkB (Y 0) (ad 0 (13 + 2 * k)) (ad 0 (14 + 2 * k)) (F 0 (11 + k)) (F 0 (18 + k))) := by
  match k, h with
  | 0, _ | 1, _ | 2, _ | 3, _ | 4, _ | 5, _ | 6, _ => rfl
theorem FB_lkS0 {k : Nat} (h : k < 7) : [(4 + k)].map (fun i => (FB Y ad F)[i]?) = [lkB (Y 0) (ad 0 (13 + 2 * k)) (ad 0 (14 + 2 * k)) (lkU (F 0) k 0) (lkU (F 0) k 1)].map some := by
  rw [List.map_cons, FB_lk0 Y ad F h]; rfl
theorem FB_lkG0 {k : Nat} (h : k < 7) (G : Nat → Int32) : (FB Y ad F).set (4 + k) (lkB (Y 0) (ad 0 (13 + 2 * k)) (ad 0 (14 + 2 * k)) (F 0 (11 + k)) G) = FB Y ad (setF F 0 (setC (F 0) (18 + k) G)) := by
  match k, h with
  | 0, _ | 1, _ | 2, _ | 3, _ | 4, _ | 5, _ | 6, _ => rfl
theorem FB_lk1 {k : Nat} (h : k < 7) : (FB Y ad F)[(64 + k)]? = some (lkB (Y 0) (ad 1 (13 + 2 * k)) (ad 1 (14 + 2 * k)) (F 1 (11 + k)) (F 1 (18 + k))) := by
  match k, h with
  | 0, _ | 1, _ | 2, _ | 3, _ | 4, _ | 5, _ | 6, _ => rfl
theorem FB_lkS1 {k : Nat} (h : k < 7) : [(64 + k)].map (fun i => (FB Y ad F)[i]?) = [lkB (Y 0) (ad 1 (13 + 2 * k)) (ad 1 (14 + 2 * k)) (lkU (F 1) k 0) (lkU (F 1) k 1)].map some := by
  rw [List.map_cons, FB_lk1 Y ad F h]; rfl
theorem FB_lkG1 {k : Nat} (h : k < 7) (G : Nat → Int32) : (FB Y ad F).set (64 + k) (lkB (Y 0) (ad 1 (13 + 2 * k)) (ad 1 (14 + 2 * k)) (F 1 (11 + k)) G) = FB Y ad (setF F 1 (setC (F 1) (18 + k) G)) := by
  match k, h with
  | 0, _ | 1, _ | 2, _ | 3, _ | 4, _ | 5, _ | 6, _ => rfl
theorem FB_rw0 {k : Nat} (h : k < 2) : (FB Y ad F)[(11 + k)]? = some (rwB (Y 0) (ad 0 (27 + 2 * k)) (ad 0 (28 + 2 * k)) (F 0 (27 + k)) (F 0 (25 + k))) := by
  match k, h with
  | 0, _ | 1, _ => rfl
theorem FB_rwS0 {k : Nat} (h : k < 2) : [(11 + k)].map (fun i => (FB Y ad F)[i]?) = [rwB (Y 0) (ad 0 (27 + 2 * k)) (ad 0 (28 + 2 * k)) (rwU (F 0) k 0) (rwU (F 0) k 1)].map some := by
  rw [List.map_cons, FB_rw0 Y ad F h]; rfl
theorem HB_ln {q : Nat} (h : q < 4) : (HB Y ad F)[(13 + 12 * q)]? = some (lnB Y (ad (3 + q)) (F (3 + q) 0) (F (3 + q) 1) (F (3 + q) 2) (F (3 + q) 3)) := by
  match q, h with
  | 0, _ | 1, _ | 2, _ | 3, _ => rfl
abbrev hbq_ (q : Nat) : List Nat := [13 + 12 * q, 14 + 12 * q, 15 + 12 * q, 16 + 12 * q, 17 + 12 * q, 18 + 12 * q, 19 + 12 * q, 20 + 12 * q, 21 + 12 * q, 22 + 12 * q, 23 + 12 * q, 24 + 12 * q]
abbrev hb0_ : List Nat := [1, 2, 3, 4, 5, 6, 7, 8, 9, 10, 11, 12]
theorem HB_nd1 {q : Nat} (h : q < 4) : va_nd (hbq_ q ++ hb0_) = true := by
  match q, h with
  | 0, _ | 1, _ | 2, _ | 3, _ => decide +kernel
theorem HB_nd2 {q : Nat} (h : q < 4) : va_nd (hb0_ ++ hbq_ q) = true := by
  match q, h with
  | 0, _ | 1, _ | 2, _ | 3, _ => decide +kernel
theorem HB_s1 {q : Nat} (h : q < 4) : (hbq_ q ++ hb0_).map (fun i => (HB Y ad F)[i]?) = (LB Y (ad (3 + q)) (F (3 + q)) ++ LB Y (ad 0) (F 0)).map some := by
  match q, h with
  | 0, _ | 1, _ | 2, _ | 3, _ => rfl
theorem HB_p1 {q : Nat} (h : q < 4) (V : Nat → Nat → Int32) : putL (HB Y ad F) (hbq_ q ++ hb0_) (LB Y (ad (3 + q)) V ++ LB Y (ad 0) (F 0)) = HB Y ad (setF F (3 + q) V) := by
  match q, h with
  | 0, _ | 1, _ | 2, _ | 3, _ => rfl
theorem HB_s2 {q : Nat} (h : q < 4) : (hb0_ ++ hbq_ q).map (fun i => (HB Y ad F)[i]?) = (LB Y (ad 0) (F 0) ++ LB Y (ad (3 + q)) (F (3 + q))).map some := by
  match q, h with
  | 0, _ | 1, _ | 2, _ | 3, _ => rfl
theorem HB_p2 {q : Nat} (h : q < 4) (V : Nat → Nat → Int32) : putL (HB Y ad F) (hb0_ ++ hbq_ q) (LB Y (ad 0) V ++ LB Y (ad (3 + q)) (F (3 + q))) = HB Y ad (setF F 0 V) := by
  match q, h with
  | 0, _ | 1, _ | 2, _ | 3, _ => rfl
theorem hsF_up (s : Nat → Int32) (k : Nat) (x : Int32) : va_up (hsF ad s) k (some (ad (3 + tN x) 0)) = hsF ad (upd s k x) := by
  funext j
  by_cases h : j = k
  · subst h; show (if j = j then _ else _) = some (ad (3 + tN (if j = j then x else s j)) 0); rw [if_pos rfl, if_pos rfl]
  · show (if j = k then _ else _) = some (ad (3 + tN (if j = k then x else s j)) 0); rw [if_neg h, if_neg h]
theorem HB_up (k : Nat) (x : Int32) : (HB Y ad F).set 0 [(ad 8 0, .inr (1, [.ref (ad 8 1), .int (F 8 0 0)])), (ad 8 1, ra (Y 2) 4 (va_up (hsF ad (F 8 1)) k (some (ad (3 + tN x) 0))))] = HB Y ad (setF F 8 (up1 (F 8) 1 k x)) := by
  rw [hsF_up]; rfl
end FBS
/-- what the history keeps to: at most 4 states, its order a row of its lines' places -/
abbrev hiOK (F : Nat → Nat → Nat → Int32) : Prop := vp_in (F 8 0 0) 5 ∧ ∀ k : Nat, k < 4 → tN (F 8 1 k) < 4
/-- two flags of a link are 0 or 1 as the machine keeps them -/
abbrev boL (V : Nat → Nat → Int32) : Prop := ∀ k : Nat, k < 7 → blOK (V (11 + k) 6) ∧ blOK (V (11 + k) 7)
