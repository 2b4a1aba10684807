section PUTS
variable (Y : Nat → ClassId) (ad : Nat → Nat) (V : Nat → Nat → Int32) (U : Nat → Nat → Int32)
theorem P1_ch : putL (LB Y ad V) [1] [chB (Y 0) (ad 5) (ad 6) (ad 7) (U 0) (U 1) (U 2)] = LB Y ad (chS V U) := rfl
theorem P1_nt : putL (LB Y ad V) [2] [ntB (Y 0) (ad 8) (ad 9) (ad 10) (ad 11) (U 0) (U 1) (U 2) (U 3)] = LB Y ad (ntS V U) := rfl
theorem P1_lk {k : Nat} (h : k < 7) : putL (LB Y ad V) [3 + k] [lkB (Y 0) (ad (13 + 2 * k)) (ad (14 + 2 * k)) (U 0) (U 1)] = LB Y ad (lkS V k U) := LB_lkS Y ad V h U
theorem P1_rw {k : Nat} (h : k < 2) : putL (LB Y ad V) [10 + k] [rwB (Y 0) (ad (27 + 2 * k)) (ad (28 + 2 * k)) (U 0) (U 1)] = LB Y ad (rwS V k U) := LB_rwS Y ad V h U
variable (adb : Nat → Nat) (W : Nat → Nat → Int32)
theorem P2_ch : putL (LB Y ad V ++ LB Y adb W) [1, 13] [chB (Y 0) (ad 5) (ad 6) (ad 7) (U 0) (U 1) (U 2), chB (Y 0) (adb 5) (adb 6) (adb 7) (chU W 0) (chU W 1) (chU W 2)] = LB Y ad (chS V U) ++ LB Y adb W := rfl
theorem P2_nt : putL (LB Y ad V ++ LB Y adb W) [2, 14] [ntB (Y 0) (ad 8) (ad 9) (ad 10) (ad 11) (U 0) (U 1) (U 2) (U 3), ntB (Y 0) (adb 8) (adb 9) (adb 10) (adb 11) (ntU W 0) (ntU W 1) (ntU W 2) (ntU W 3)] = LB Y ad (ntS V U) ++ LB Y adb W := rfl
theorem P2_lk {k : Nat} (h : k < 7) : putL (LB Y ad V ++ LB Y adb W) [3 + k, 15 + k] [lkB (Y 0) (ad (13 + 2 * k)) (ad (14 + 2 * k)) (U 0) (U 1), lkB (Y 0) (adb (13 + 2 * k)) (adb (14 + 2 * k)) (lkU W k 0) (lkU W k 1)] = LB Y ad (lkS V k U) ++ LB Y adb W := by
  match k, h with
  | 0, _ | 1, _ | 2, _ | 3, _ | 4, _ | 5, _ | 6, _ => rfl
theorem P2_rw {k : Nat} (h : k < 2) : putL (LB Y ad V ++ LB Y adb W) [10 + k, 22 + k] [rwB (Y 0) (ad (27 + 2 * k)) (ad (28 + 2 * k)) (U 0) (U 1), rwB (Y 0) (adb (27 + 2 * k)) (adb (28 + 2 * k)) (rwU W k 0) (rwU W k 1)] = LB Y ad (rwS V k U) ++ LB Y adb W := by
  match k, h with
  | 0, _ | 1, _ => rfl
end PUTS
