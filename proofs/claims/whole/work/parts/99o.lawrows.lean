/-! rows of the law's own body: its script, its two objects -/
/-- the law's places: where it stands, the class's object, the reference's, the script -/
abbrev lvL (b q0 q1 i : Nat) : List (Nat × Value) := [(3, .int (nI i)), (0, .ref b), (1, .ref q0), (2, .ref q1)]
def LC (p : Program) (s : State) (m : MethodId) (args : Array Value) (meth : Method) (c : Code) (D : va_G) (Y : Nat → ClassId) (A : Nat → Prop) (b L : Nat) (xs : Nat → Int32) : Prop :=
  Cx p s m args meth c cL_law 4 RL wsL_law D (tyL Y) ∧ va_X b L xs s s.heap ∧ b < s.heap.size ∧ ¬ A b ∧ L ≤ 2048
section LWR
variable {p : Program} {l : Launch} {e : Env} {s : State} {m : MethodId} {args : Array Value} {below : List Frame} {meth : Method} {c : Code} {D : va_G} {Y : Nat → ClassId} {A : Nat → Prop} {cells slots : Nat} {Q : State → Prop} {Bs : List va_W} {lv : List (Nat × Value)} {st stk : List Value} {pc b L : Nat} {xs : Nat → Int32} {ad : Nat → Nat → Nat} {mo : Nat → Nat} {F F' : Nat → Nat → Nat → Int32} {M M' : Nat → Nat → Int32}
theorem lw_sld (h : LC p s m args meth c D Y A b L xs) {k : Nat} (hk : k < L) (dg : decode cL_law pc = .ok (.iaload, 1)) (kk : J p l e room_1 s m args below meth c 4 D A cells slots Q Bs (pc + 1) lv (.int (xs k) :: st)) : J p l e room_1 s m args below meth c 4 D A cells slots Q Bs pc lv (.int (nI k) :: .ref b :: st) := by
  intro H locs ls hP hD hS hl
  obtain ⟨cx, hX, hbl, hbA, hL⟩ := h
  have hk31 : k < 2 ^ 31 := by omega
  refine va_sld cx.1 cx.2.1 hX hbl hbA hS (vp_in_nI hk (by omega)) dg ?_
  rw [nI_clamp hk31]
  exact kk H locs ls hP hD hS hl
theorem lw_slen (h : LC p s m args meth c D Y A b L xs) (dg : decode cL_law pc = .ok (.arraylength, 1)) (kk : J p l e room_1 s m args below meth c 4 D A cells slots Q Bs (pc + 1) lv (.int (nI L) :: st)) : J p l e room_1 s m args below meth c 4 D A cells slots Q Bs pc lv (.ref b :: st) := by
  intro H locs ls hP hD hS hl
  obtain ⟨cx, hX, hbl, hbA, hL⟩ := h
  exact va_slen cx.1 cx.2.1 hX hbl hbA hS dg (kk H locs ls hP hD hS hl)
/-- the script's number k places on -/
theorem lw_arg (h : LC p s m args meth c D Y A b L xs) {q0 q1 i : Nat} (n : Int) (k : Nat) (hn : Int32.ofInt n = nI k) (hk : i + k < L) (d0 : decode cL_law pc = .ok (.aload_n 0, 1)) (d1 : decode cL_law (pc + 1) = .ok (.iload_n 3, 1)) (d2 : decode cL_law (pc + 1 + 1) = .ok (.iconst n, 1)) (d3 : decode cL_law (pc + 1 + 1 + 1) = .ok (.iadd, 1)) (d4 : decode cL_law (pc + 1 + 1 + 1 + 1) = .ok (.iaload, 1)) (kk : J p l e room_1 s m args below meth c 4 D A cells slots Q Bs (pc + 1 + 1 + 1 + 1 + 1) (lvL b q0 q1 i) (.int (xs (i + k)) :: st)) : J p l e room_1 s m args below meth c 4 D A cells slots Q Bs pc (lvL b q0 q1 i) st := by
  refine j_aload_n h.1 d0 1 rfl ?_
  refine j_iload_n h.1 d1 0 rfl ?_
  refine j_iconst h.1 d2 hn ?_
  refine j_iaddN h.1 d3 ?_
  exact lw_sld h hk d4 kk
section LWC
variable {y : MethodName} {ws ws0 : List Cond} {fr lo maxL : Nat} {bytes : ByteArray} {ret : Option FieldType} {As : List Value} {index : Nat} {r : Int32}
/-- a call of the class -/
theorem lw_c7 (h : LC p s m args meth c D Y A b L xs) (n : Nat) {X : va_W} (hM : CtI l y ws fr lo D (tyL Y) (FB Y ad F) (.ref (ad 8 2) :: As) r (FB Y ad F')) (hG : GoodIn wsL_law (wsV RL index RX7 y ws)) (hw : ws = Cond.code y bytes maxL ret :: ws0) (hd : y.cls = RX7 ∧ y.cls ≠ "java/lang/invoke/MethodHandle" ∧ y.cls ≠ "java/lang/invoke/VarHandle" ∧ (parseMethodDescriptor y.desc).map (fun d => d.parameters.length) = some n) (hnA : As.length = n) (hR : fr + 1 ≤ room_1.frames ∧ 8 + (maxL + 11) + lo ≤ room_1.locals) (hst : stk = As.reverse ++ .ref (ad 8 2) :: st) (hcat : (st.map fun v => v.category).sum ≤ 8) (dg : decode cL_law pc = .ok (.invokevirtual index, 3)) (hroom : cells ≤ room_1.cells ∧ slots ≤ room_1.slots) (kk : J p l e room_1 s m args below meth c 4 D A cells slots Q (FB Y ad F' ++ [X]) (pc + 3) lv (.int r :: st)) : J p l e room_1 s m args below meth c 4 D A cells slots Q (FB Y ad F ++ [X]) pc lv stk := by
  have h1 : (List.range 87).map (fun i => (FB Y ad F ++ [X])[i]?) = (FB Y ad F).map some := by
    have := sel_seg [] (FB Y ad F) [X]
    rw [List.nil_append, FB_len] at this
    rw [List.range_eq_range']; exact this
  have h2 : putL (FB Y ad F ++ [X]) (List.range 87) (FB Y ad F') = FB Y ad F' ++ [X] := by
    have := putL_seg [] (FB Y ad F) (FB Y ad F') [X] rfl
    rw [List.nil_append, FB_len, List.nil_append] at this
    rw [List.range_eq_range']; exact this
  exact j_calli h.1 n hM hG hw hd hnA hR (List.range 87) h1 nd_range87 h2 A1_FB 85 0 rfl rfl rfl hst hcat dg hroom kk
/-- a call of the reference -/
theorem lw_c8 (h : LC p s m args meth c D Y A b L xs) (n : Nat) (hM : CtI l y ws fr lo D (tyL Y) ([moB Y mo M]) (.ref (mo 0) :: As) r ([moB Y mo M'])) (hG : GoodIn wsL_law (wsV RL index RX8 y ws)) (hw : ws = Cond.code y bytes maxL ret :: ws0) (hd : y.cls = RX8 ∧ y.cls ≠ "java/lang/invoke/MethodHandle" ∧ y.cls ≠ "java/lang/invoke/VarHandle" ∧ (parseMethodDescriptor y.desc).map (fun d => d.parameters.length) = some n) (hnA : As.length = n) (hR : fr + 1 ≤ room_1.frames ∧ 8 + (maxL + 11) + lo ≤ room_1.locals) (hst : stk = As.reverse ++ .ref (mo 0) :: st) (hcat : (st.map fun v => v.category).sum ≤ 8) (dg : decode cL_law pc = .ok (.invokevirtual index, 3)) (hroom : cells ≤ room_1.cells ∧ slots ≤ room_1.slots) (kk : J p l e room_1 s m args below meth c 4 D A cells slots Q (FB Y ad F ++ [moB Y mo M']) (pc + 3) lv (.int r :: st)) : J p l e room_1 s m args below meth c 4 D A cells slots Q (FB Y ad F ++ [moB Y mo M]) pc lv stk := by
  have h1 : [87].map (fun i => (FB Y ad F ++ [moB Y mo M])[i]?) = [moB Y mo M].map some := by
    have := sel_seg (FB Y ad F) [moB Y mo M] []
    rw [List.append_nil, FB_len] at this
    exact this
  have h2 : putL (FB Y ad F ++ [moB Y mo M]) [87] [moB Y mo M'] = FB Y ad F ++ [moB Y mo M'] := by
    have := putL_seg (FB Y ad F) [moB Y mo M] [moB Y mo M'] [] rfl
    rw [List.append_nil, List.append_nil, FB_len] at this
    exact this
  have h3 : (FB Y ad F ++ [moB Y mo M])[87]? = some (moB Y mo M) := by
    rw [List.map_cons, List.map_cons] at h1
    exact (List.cons.inj h1).1
  exact j_calli h.1 n hM hG hw hd hnA hR [87] h1 (by decide) h2 rfl 87 0 h3 rfl rfl hst hcat dg hroom kk
end LWC
end LWR
