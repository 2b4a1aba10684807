/-! the system's state in numbers: a line V : Nat → Nat → Int32, by component; its blocks -/
def setC (V : Nat → Nat → Int32) (c : Nat) (g : Nat → Int32) : Nat → Nat → Int32 := fun c' => if c' = c then g else V c'
abbrev up1 (V : Nat → Nat → Int32) (c i : Nat) (x : Int32) : Nat → Nat → Int32 := setC V c (upd (V c) i x)
theorem setC_eq (V : Nat → Nat → Int32) (c : Nat) (g : Nat → Int32) : setC V c g c = g := if_pos rfl
theorem setC_ne {V : Nat → Nat → Int32} {c c' : Nat} {g : Nat → Int32} (h : c' ≠ c) : setC V c g c' = V c' := if_neg h
abbrev tyL (Y : Nat → ClassId) : List (ClassId × FieldType) := [(Y 0, .int), (Y 1, .int), (Y 2, .object "FourPhases$Line"), (Y 3, .object "FourPhases$Link"), (Y 4, .object "FourPhases$Row")]
abbrev ia (cI : ClassId) (n : Nat) (f : Nat → Int32) : va_E := .inl (cI, n, .inl f)
abbrev ra (cR : ClassId) (n : Nat) (f : Nat → Option Nat) : va_E := .inl (cR, n, .inr (.inr (.inr (.inr f))))
abbrev chB (cI : ClassId) (a b c : Nat) (sc t g : Nat → Int32) : va_W := [(a, .inr (0, [.ref b, .ref c, .int (sc 0), .int (sc 1)])), (b, ia cI 64 t), (c, ia cI 64 g)]
abbrev ntB (cI : ClassId) (a b c d : Nat) (sc w t r : Nat → Int32) : va_W := [(a, .inr (4, [.ref b, .ref c, .ref d, .int (sc 0), .int (sc 1)])), (b, ia cI 50 w), (c, ia cI 50 t), (d, ia cI 50 r)]
abbrev lkB (cI : ClassId) (a d : Nat) (F G : Nat → Int32) : va_W := [(a, .inr (3, [.ref d, .int (F 0), .int (F 1), .int (F 2), .int (F 3), .int (F 4), .int (F 5), .int (F 6), .int (F 7), .int (F 8)])), (d, ia cI 3 G)]
abbrev rwB (cI : ClassId) (a w : Nat) (sc W : Nat → Int32) : va_W := [(a, .inr (5, [.ref w, .int (sc 0)])), (w, ia cI 20 W)]
abbrev lnB (Y : Nat → ClassId) (ad : Nat → Nat) (sc se he of : Nat → Int32) : va_W := [(ad 0, .inr (2, [.int (sc 0), .int (sc 1), .int (sc 2), .int (sc 3), .int (sc 4), .ref (ad 1), .ref (ad 2), .ref (ad 3), .ref (ad 4), .ref (ad 5), .ref (ad 8), .ref (ad 12)])), (ad 1, ia (Y 0) 3 se), (ad 2, ra (Y 3) 7 (fun k => some (ad (13 + 2 * k)))), (ad 3, ia (Y 0) 6 he), (ad 4, ra (Y 4) 2 (fun k => some (ad (27 + 2 * k)))), (ad 12, ia (Y 0) 8 of)]
/-- the twelve blocks of a Line: itself, its changes, its notes, seven links, two rows -/
def LB (Y : Nat → ClassId) (ad : Nat → Nat) (V : Nat → Nat → Int32) : List va_W := [lnB Y ad (V 0) (V 1) (V 2) (V 3), chB (Y 0) (ad 5) (ad 6) (ad 7) (V 4) (V 5) (V 6), ntB (Y 0) (ad 8) (ad 9) (ad 10) (ad 11) (V 7) (V 8) (V 9) (V 10),
  lkB (Y 0) (ad 13) (ad 14) (V 11) (V 18), lkB (Y 0) (ad 15) (ad 16) (V 12) (V 19), lkB (Y 0) (ad 17) (ad 18) (V 13) (V 20), lkB (Y 0) (ad 19) (ad 20) (V 14) (V 21), lkB (Y 0) (ad 21) (ad 22) (V 15) (V 22), lkB (Y 0) (ad 23) (ad 24) (V 16) (V 23), lkB (Y 0) (ad 25) (ad 26) (V 17) (V 24),
  rwB (Y 0) (ad 27) (ad 28) (V 27) (V 25), rwB (Y 0) (ad 29) (ad 30) (V 28) (V 26)]
abbrev chU (V : Nat → Nat → Int32) : Nat → Nat → Int32 := fun c => V (4 + c)
abbrev ntU (V : Nat → Nat → Int32) : Nat → Nat → Int32 := fun c => V (7 + c)
abbrev lkU (V : Nat → Nat → Int32) (k : Nat) : Nat → Nat → Int32 := fun c => match c with | 0 => V (11 + k) | _ => V (18 + k)
abbrev rwU (V : Nat → Nat → Int32) (k : Nat) : Nat → Nat → Int32 := fun c => match c with | 0 => V (27 + k) | _ => V (25 + k)
abbrev chS (V U : Nat → Nat → Int32) : Nat → Nat → Int32 := setC (setC (setC V 4 (U 0)) 5 (U 1)) 6 (U 2)
abbrev ntS (V U : Nat → Nat → Int32) : Nat → Nat → Int32 := setC (setC (setC (setC V 7 (U 0)) 8 (U 1)) 9 (U 2)) 10 (U 3)
abbrev lkS (V : Nat → Nat → Int32) (k : Nat) (U : Nat → Nat → Int32) : Nat → Nat → Int32 := setC (setC V (11 + k) (U 0)) (18 + k) (U 1)
abbrev rwS (V : Nat → Nat → Int32) (k : Nat) (U : Nat → Nat → Int32) : Nat → Nat → Int32 := setC (setC V (27 + k) (U 0)) (25 + k) (U 1)
section LBS
variable (Y : Nat → ClassId) (ad : Nat → Nat) (V : Nat → Nat → Int32)
theorem LB_lk {k : Nat} (h : k < 7) : (LB Y ad V)[3 + k]? = some (lkB (Y 0) (ad (13 + 2 * k)) (ad (14 + 2 * k)) (V (11 + k)) (V (18 + k))) := by
  match k, h with
  | 0, _ | 1, _ | 2, _ | 3, _ | 4, _ | 5, _ | 6, _ => rfl
theorem LB_rw {k : Nat} (h : k < 2) : (LB Y ad V)[10 + k]? = some (rwB (Y 0) (ad (27 + 2 * k)) (ad (28 + 2 * k)) (V (27 + k)) (V (25 + k))) := by
  match k, h with
  | 0, _ | 1, _ => rfl
theorem LB_lkF {k : Nat} (h : k < 7) (F : Nat → Int32) : (LB Y ad V).set (3 + k) (lkB (Y 0) (ad (13 + 2 * k)) (ad (14 + 2 * k)) F (V (18 + k))) = LB Y ad (setC V (11 + k) F) := by
  match k, h with
  | 0, _ | 1, _ | 2, _ | 3, _ | 4, _ | 5, _ | 6, _ => rfl
theorem LB_lkG {k : Nat} (h : k < 7) (G : Nat → Int32) : (LB Y ad V).set (3 + k) (lkB (Y 0) (ad (13 + 2 * k)) (ad (14 + 2 * k)) (V (11 + k)) G) = LB Y ad (setC V (18 + k) G) := by
  match k, h with
  | 0, _ | 1, _ | 2, _ | 3, _ | 4, _ | 5, _ | 6, _ => rfl
theorem LB_lkS {k : Nat} (h : k < 7) (U : Nat → Nat → Int32) : (LB Y ad V).set (3 + k) (lkB (Y 0) (ad (13 + 2 * k)) (ad (14 + 2 * k)) (U 0) (U 1)) = LB Y ad (lkS V k U) := by
  match k, h with
  | 0, _ | 1, _ | 2, _ | 3, _ | 4, _ | 5, _ | 6, _ => rfl
theorem LB_rwS {k : Nat} (h : k < 2) (U : Nat → Nat → Int32) : (LB Y ad V).set (10 + k) (rwB (Y 0) (ad (27 + 2 * k)) (ad (28 + 2 * k)) (U 0) (U 1)) = LB Y ad (rwS V k U) := by
  match k, h with
  | 0, _ | 1, _ => rfl
theorem LB_chS (U : Nat → Nat → Int32) : (LB Y ad V).set 1 (chB (Y 0) (ad 5) (ad 6) (ad 7) (U 0) (U 1) (U 2)) = LB Y ad (chS V U) := rfl
theorem LB_ntS (U : Nat → Nat → Int32) : (LB Y ad V).set 2 (ntB (Y 0) (ad 8) (ad 9) (ad 10) (ad 11) (U 0) (U 1) (U 2) (U 3)) = LB Y ad (ntS V U) := rfl
theorem LB_adr (V' : Nat → Nat → Int32) : adr (LB Y ad V') = adr (LB Y ad V) := rfl
end LBS
/-- the text's block, the history's, the class's own, the reference's -/
abbrev txB (Y : Nat → ClassId) (tx : Nat → Nat) (T : Nat → Nat → Int32) : va_W := [(tx 0, .inr (6, [.ref (tx 1), .int (T 0 0), .ref (tx 2), .ref (tx 3), .ref (tx 4), .int (T 0 1), .int (T 0 2)])), (tx 1, ia (Y 0) 60 (T 1)), (tx 2, ia (Y 0) 20 (T 2)), (tx 3, ia (Y 0) 20 (T 3)), (tx 4, ia (Y 0) 20 (T 4))]
abbrev hsB (Y : Nat → ClassId) (h0 h1 : Nat) (hs : Nat → Nat → Nat) (n : Int32) : va_W := [(h0, .inr (1, [.ref h1, .int n])), (h1, ra (Y 2) 4 (fun k => some (hs k 0)))]
abbrev moB (Y : Nat → ClassId) (mo : Nat → Nat) (M : Nat → Nat → Int32) : va_W := [(mo 0, .inr (8, [.ref (mo 1), .ref (mo 2), .ref (mo 3), .int (M 0 0), .ref (mo 4), .int (M 0 1), .ref (mo 5), .int (M 0 2), .int (M 0 3), .int (M 0 4), .int (M 0 5), .int (M 0 6)])), (mo 1, ia (Y 0) 719 (M 1)), (mo 2, ia (Y 0) 719 (M 2)), (mo 3, ia (Y 0) 2876 (M 3)), (mo 4, ia (Y 0) 719 (M 4)), (mo 5, ia (Y 0) 60 (M 5))]
section LBS2
variable (Y : Nat → ClassId) (ad : Nat → Nat) (V : Nat → Nat → Int32)
theorem LB_lk_sel {k : Nat} (h : k < 7) : [3 + k].map (fun i => (LB Y ad V)[i]?) = [lkB (Y 0) (ad (13 + 2 * k)) (ad (14 + 2 * k)) (lkU V k 0) (lkU V k 1)].map some := by
  rw [List.map_cons, LB_lk Y ad V h]; rfl
theorem LB_rw_sel {k : Nat} (h : k < 2) : [10 + k].map (fun i => (LB Y ad V)[i]?) = [rwB (Y 0) (ad (27 + 2 * k)) (ad (28 + 2 * k)) (rwU V k 0) (rwU V k 1)].map some := by
  rw [List.map_cons, LB_rw Y ad V h]; rfl
end LBS2
/-- a number that is not negative and less than n, as a place -/
abbrev tN (x : Int32) : Nat := x.toNatClampNeg
theorem inN {x : Int32} {n : Nat} (h : vp_in x n) (hn : n < 2 ^ 31 := by decide) : x = nI (tN x) := by
  obtain ⟨j, hj, rfl⟩ := vp_in_of h hn
  show nI j = nI (nI j).toNatClampNeg
  rw [nI_clamp (Nat.lt_trans hj hn)]
theorem inL {x : Int32} {n : Nat} (h : vp_in x n) : tN x < n := Nat.not_le.mp (fun q => h (Or.inr q))
theorem inG {x : Int32} (h : ¬ x < 0) : x = nI (tN x) := by
  obtain ⟨j, hj, rfl⟩ := nI_of h
  show nI j = nI (nI j).toNatClampNeg
  rw [nI_clamp hj]
theorem tN_lt (x : Int32) : tN x < 2 ^ 31 := by
  have h1 := Int32.toInt_lt x
  show x.toInt.toNat < 2 ^ 31
  omega
theorem tN_nI {n : Nat} (h : n < 2 ^ 31) : tN (nI n) = n := nI_clamp h
theorem ne_toInt {x : Int32} {n : Nat} (hn : n < 2 ^ 31) (h : ¬ x = nI n) : (n : Int) ≠ x.toInt := by
  intro e
  apply h
  apply Int32.toInt_inj.mp
  rw [nI_toInt hn, e]
theorem sw_out (lo hi : Int) (h0 : 0 ≤ lo ∧ hi < 2 ^ 31) {x : Int32} (h : ∀ j : Nat, lo ≤ (j : Int) → (j : Int) ≤ hi → x ≠ nI j) : x.toInt < lo ∨ hi < x.toInt := by
  by_cases q : x.toInt < lo
  · exact Or.inl q
  · by_cases q2 : hi < x.toInt
    · exact Or.inr q2
    · have h1 : ((x.toInt.toNat : Nat) : Int) = x.toInt := by omega
      have h2 : x.toInt.toNat < 2 ^ 31 := by omega
      exact absurd h1 (ne_toInt h2 (h x.toInt.toNat (by omega) (by omega)))
theorem sw_def (l : List (Int × Int)) (d : Int) (x : Int32) (h : ∀ q ∈ l, q.1 ≠ x.toInt) : Op.lookupswitch.offset l d x.toInt = d := by
  induction l with
  | nil => rfl
  | cons q l ih =>
    obtain ⟨a, o⟩ := q
    have h1 : a ≠ x.toInt := h (a, o) List.mem_cons_self
    show (if a = x.toInt then o else Op.lookupswitch.offset l d x.toInt) = d
    rw [if_neg h1]
    exact ih (fun q hq => h q (List.mem_cons_of_mem _ hq))
