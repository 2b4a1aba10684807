section PUTS
variable (Y : Nat → ClassId) (ad : Nat → Nat) (V : Nat → Nat → Int32) (U : Nat → Nat → Int32)
theorem P1_ch : putL (LB Y ad V) [1] [chB (Y 0) (ad 5) (ad 6) (ad 7) (U 0) (U 1) (U 2)] = LB Y ad (chS V U) := rfl
theorem P1_nt : putL (LB Y ad V) [2] [ntB (Y 0) (ad 8) (ad 9) (ad 10) (ad 11) (U 0) (U 1) (U 2) (U 3)] = LB Y ad (ntS V U) := rfl
theorem P1_lk {k : Nat} (h : k < 7) : putL (LB Y ad V) [3 + k] [lkB (Y 0) (ad (13 + 2 * k)) (ad (14 + 2 * k)) (U 0) (U 1)] = LB Y ad (lkS V k U) := LB_lkS Y ad V h U
theorem P1_rw {k : Nat} (h : k < 2) : putL (LB Y ad V) [10 + k] [rwB (Y 0) (ad (27 + 2 * k)) (ad (28 + 2 * k)) (U 0) (U 1)] = LB Y ad (rwS V k U) := LB_rwS Y ad V h U
variable (adb : Nat → Nat) (W : Nat → Nat → Int32)
theorem P2_ch : putL (LB Y ad V ++ LB Y adb W) [1, 13] [chB (Y 0) (ad 5) (ad 6) (ad 7) (U 0) (U 1) (U 2), chB (Y 0) (adb 5) (adb 6) (adb 7) (chU W 0) (chU W 1) (chU W 2)] = LB Y ad (chS V U) ++ LB Y adb W := rfl
theorem P2_nt : putL (LB Y ad V ++ LB Y adb W) [2, 14] [ntB (Y 0) (ad 8) (ad 9) (ad 10) (ad 11) (U 0) (U 1) (U 2) (U 3), ntB (Y 0) (adb 8) (adb 9) (adb 10) (adb 11) (ntU W 0) (ntU W 1) (ntU W 2) (ntU W 3)] = LB Y ad (ntS V U) ++ LB Y adb W := rfl
theorem P2_lk {k : Nat} (h : k < 7) : putL (LB Y ad V ++ LB Y adb W) [3 + k, 15 + k] [lkB (Y 0) (ad (13 + 2 * k)) (ad (14 + 2 * k)) (U 0) (U 1), lkB (Y 0) (adb (13 + 2 * k)) (adb (14 + 2 * k)) (lkU W k 0) (lkU W k 1)] = LB Y ad (lkS V k U) ++ LB Y adb W := by
  match k, h with
  | 0, _ | 1, _ | 2, _ | 3, _ | 4, _ | 5, _ | 6, _ => rfl
theorem P2_rw {k : Nat} (h : k < 2) : putL (LB Y ad V ++ LB Y adb W) [10 + k, 22 + k] [rwB (Y 0) (ad (27 + 2 * k)) (ad (28 + 2 * k)) (U 0) (U 1), rwB (Y 0) (adb (27 + 2 * k)) (adb (28 + 2 * k)) (rwU W k 0) (rwU W k 1)] = LB Y ad (rwS V k U) ++ LB Y adb W := by
  match k, h with
  | 0, _ | 1, _ => rfl
end PUTS
/-! the same addresses, whatever is held -/
theorem A1_ch {cI : ClassId} {a b c : Nat} {s t g s' t' g' : Nat → Int32} : adr [chB cI a b c s t g] = adr [chB cI a b c s' t' g'] := rfl
theorem A1_nt {cI : ClassId} {a b c d : Nat} {s t g r s' t' g' r' : Nat → Int32} : adr [ntB cI a b c d s t g r] = adr [ntB cI a b c d s' t' g' r'] := rfl
theorem A1_lk {cI : ClassId} {a b : Nat} {s t s' t' : Nat → Int32} : adr [lkB cI a b s t] = adr [lkB cI a b s' t'] := rfl
theorem A1_rw {cI : ClassId} {a b : Nat} {s t s' t' : Nat → Int32} : adr [rwB cI a b s t] = adr [rwB cI a b s' t'] := rfl
theorem A1_tx {Y : Nat → ClassId} {tx : Nat → Nat} {T T' : Nat → Nat → Int32} : adr [txB Y tx T] = adr [txB Y tx T'] := rfl
theorem A1_mo {Y : Nat → ClassId} {mo : Nat → Nat} {T T' : Nat → Nat → Int32} : adr [moB Y mo T] = adr [moB Y mo T'] := rfl
theorem A1_ln {Y : Nat → ClassId} {ad : Nat → Nat} {V V' : Nat → Nat → Int32} : adr (LB Y ad V) = adr (LB Y ad V') := rfl
theorem A2_1 {b b' c : va_W} (h : adr [b] = adr [b']) : adr [b, c] = adr [b', c] := by
  have h2 : [b.map Prod.fst] = [b'.map Prod.fst] := h
  show [b.map Prod.fst, c.map Prod.fst] = [b'.map Prod.fst, c.map Prod.fst]
  rw [List.cons.injEq] at h2
  rw [h2.1]
theorem A2_ln {Y : Nat → ClassId} {ad adb : Nat → Nat} {V V' W : Nat → Nat → Int32} : adr (LB Y ad V ++ LB Y adb W) = adr (LB Y ad V' ++ LB Y adb W) := rfl
/-! the only block of a world, put back -/
theorem P1_tx {Y : Nat → ClassId} {tx : Nat → Nat} (T T' : Nat → Nat → Int32) : putL [txB Y tx T] [0] [txB Y tx T'] = [txB Y tx T'] := rfl
theorem P1_mo {Y : Nat → ClassId} {mo : Nat → Nat} (T T' : Nat → Nat → Int32) : putL [moB Y mo T] [0] [moB Y mo T'] = [moB Y mo T'] := rfl
theorem P1_ln {Y : Nat → ClassId} {ad : Nat → Nat} (V V' : Nat → Nat → Int32) : putL (LB Y ad V) [0, 1, 2, 3, 4, 5, 6, 7, 8, 9, 10, 11] (LB Y ad V') = LB Y ad V' := rfl
