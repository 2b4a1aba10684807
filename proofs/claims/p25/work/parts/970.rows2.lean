/-! further rows: places beyond 3, long numbers, static methods over blocks -/
section JR2
variable {p : Program} {l : Launch} {e : Env} {R : Room} {s : State} {m : MethodId} {args : Array Value} {below : List Frame} {meth : Method} {c : Code} {cc : ByteArray} {nL : Nat} {own : String} {Ts : List Cond} {D : va_G} {tys : List (ClassId × FieldType)} {A : Nat → Prop} {cells slots : Nat} {Q : State → Prop} {Bs : List va_W} {lv : List (Nat × Value)} {st : List Value} {pc : Nat}
theorem j_aload (cx : Cx p s m args meth c cc nL own Ts D tys) {i a : Nat} (dg : decode cc pc = .ok (.aload i, 2)) (q : Nat) (hq : lv[q]? = some (i, .ref a)) (kk : J p l e R s m args below meth c nL D A cells slots Q Bs (pc + 2) lv (.ref a :: st)) : J p l e R s m args below meth c nL D A cells slots Q Bs pc lv st :=
  fun H locs ls hP hD hS hl => lv_aload cx.1 cx.2.1 dg (lv_at hl q hq) (kk H locs ls hP hD hS hl)
theorem j_astore (cx : Cx p s m args meth c cc nL own Ts D tys) {i x : Nat} {lv' : List (Nat × Value)} (dg : decode cc pc = .ok (.astore i, 2)) (hn : i < nL) (hl' : (i, Value.ref x) :: lv.filter (fun q => !(q.1 == i) && !(q.1 + 1 == i && q.2.category == 2)) = lv') (kk : J p l e R s m args below meth c nL D A cells slots Q Bs (pc + 2) lv' st) : J p l e R s m args below meth c nL D A cells slots Q Bs pc lv (.ref x :: st) :=
  fun H locs ls hP hD hS hl => lv_astore cx.1 cx.2.1 dg hl hn hl' (fun ls' hl2 => kk H locs ls' hP hD hS hl2)
theorem j_lload_n (cx : Cx p s m args meth c cc nL own Ts D tys) {k : Fin 4} {x : Int64} (dg : decode cc pc = .ok (.lload_n k, 1)) (q : Nat) (hq : lv[q]? = some ((k : Nat), .long x)) (kk : J p l e R s m args below meth c nL D A cells slots Q Bs (pc + 1) lv (.long x :: st)) : J p l e R s m args below meth c nL D A cells slots Q Bs pc lv st :=
  fun H locs ls hP hD hS hl => lv_lload_n cx.1 cx.2.1 dg rfl (lv_at hl q hq) (kk H locs ls hP hD hS hl)
theorem j_lload (cx : Cx p s m args meth c cc nL own Ts D tys) {i : Nat} {x : Int64} (dg : decode cc pc = .ok (.lload i, 2)) (q : Nat) (hq : lv[q]? = some (i, .long x)) (kk : J p l e R s m args below meth c nL D A cells slots Q Bs (pc + 2) lv (.long x :: st)) : J p l e R s m args below meth c nL D A cells slots Q Bs pc lv st :=
  fun H locs ls hP hD hS hl => lv_lload cx.1 cx.2.1 dg (lv_at hl q hq) (kk H locs ls hP hD hS hl)
theorem j_lstore_n (cx : Cx p s m args meth c cc nL own Ts D tys) {k : Fin 4} {x : Int64} {lv' : List (Nat × Value)} (dg : decode cc pc = .ok (.lstore_n k, 1)) (hn : (k : Nat) + 1 < nL) (hl' : ((k : Nat), Value.long x) :: lv.filter (fun q => !(q.1 == (k : Nat)) && (!(q.1 == (k : Nat) + 1) && !(q.1 + 1 == (k : Nat) && q.2.category == 2))) = lv') (kk : J p l e R s m args below meth c nL D A cells slots Q Bs (pc + 1) lv' st) : J p l e R s m args below meth c nL D A cells slots Q Bs pc lv (.long x :: st) :=
  fun H locs ls hP hD hS hl => lv_lstore_n cx.1 cx.2.1 dg rfl hl hn hl' (fun ls' hl2 => kk H locs ls' hP hD hS hl2)
theorem j_lstore (cx : Cx p s m args meth c cc nL own Ts D tys) {i : Nat} {x : Int64} {lv' : List (Nat × Value)} (dg : decode cc pc = .ok (.lstore i, 2)) (hn : i + 1 < nL) (hl' : (i, Value.long x) :: lv.filter (fun q => !(q.1 == i) && (!(q.1 == i + 1) && !(q.1 + 1 == i && q.2.category == 2))) = lv') (kk : J p l e R s m args below meth c nL D A cells slots Q Bs (pc + 2) lv' st) : J p l e R s m args below meth c nL D A cells slots Q Bs pc lv (.long x :: st) :=
  fun H locs ls hP hD hS hl => lv_lstore cx.1 cx.2.1 dg hl hn hl' (fun ls' hl2 => kk H locs ls' hP hD hS hl2)
theorem j_ldc2 (cx : Cx p s m args meth c cc nL own Ts D tys) {index : Nat} {v : Int64} (hw : Jvm.Cond.constantLong own index v ∈ Ts) (dg : decode cc pc = .ok (.ldc2_w index, 3)) (kk : J p l e R s m args below meth c nL D A cells slots Q Bs (pc + 3) lv (.long v :: st)) : J p l e R s m args below meth c nL D A cells slots Q Bs pc lv st :=
  fun H locs ls hP hD hS hl => lv_ldc2 cx.1 cx.2.1 cx.2.2.2.1 (cx.2.2.2.2.1 _ hw) dg (kk H locs ls hP hD hS hl)
theorem j_ishr (cx : Cx p s m args meth c cc nL own Ts D tys) {x y : Int32} (dg : decode cc pc = .ok (.ishr, 1)) (kk : J p l e R s m args below meth c nL D A cells slots Q Bs (pc + 1) lv (.int (x >>> (y &&& 31)) :: st)) : J p l e R s m args below meth c nL D A cells slots Q Bs pc lv (.int y :: .int x :: st) :=
  fun H locs ls hP hD hS hl => lv_ishr cx.1 cx.2.1 dg (kk H locs ls hP hD hS hl)
theorem j_lmul (cx : Cx p s m args meth c cc nL own Ts D tys) {x y : Int64} (dg : decode cc pc = .ok (.lmul, 1)) (kk : J p l e R s m args below meth c nL D A cells slots Q Bs (pc + 1) lv (.long (x * y) :: st)) : J p l e R s m args below meth c nL D A cells slots Q Bs pc lv (.long y :: .long x :: st) :=
  fun H locs ls hP hD hS hl => lv_lmul cx.1 cx.2.1 dg (kk H locs ls hP hD hS hl)
theorem j_ladd (cx : Cx p s m args meth c cc nL own Ts D tys) {x y : Int64} (dg : decode cc pc = .ok (.ladd, 1)) (kk : J p l e R s m args below meth c nL D A cells slots Q Bs (pc + 1) lv (.long (x + y) :: st)) : J p l e R s m args below meth c nL D A cells slots Q Bs pc lv (.long y :: .long x :: st) :=
  fun H locs ls hP hD hS hl => lv_ladd cx.1 cx.2.1 dg (kk H locs ls hP hD hS hl)
theorem j_i2l (cx : Cx p s m args meth c cc nL own Ts D tys) {x : Int32} (dg : decode cc pc = .ok (.i2l, 1)) (kk : J p l e R s m args below meth c nL D A cells slots Q Bs (pc + 1) lv (.long x.toInt64 :: st)) : J p l e R s m args below meth c nL D A cells slots Q Bs pc lv (.int x :: st) :=
  fun H locs ls hP hD hS hl => lv_i2l cx.1 cx.2.1 dg rfl (kk H locs ls hP hD hS hl)
theorem j_lcmp (cx : Cx p s m args meth c cc nL own Ts D tys) {x y : Int64} (dg : decode cc pc = .ok (.lcmp, 1)) (kk : J p l e R s m args below meth c nL D A cells slots Q Bs (pc + 1) lv (.int (lg_cmp x y) :: st)) : J p l e R s m args below meth c nL D A cells slots Q Bs pc lv (.long y :: .long x :: st) :=
  fun H locs ls hP hD hS hl => W.lcmp cx.1 cx.2.1 dg (kk H locs ls hP hD hS hl)
theorem lg_self (x : Int64) : lg_cmp x x = 0 := by
  unfold lg_cmp
  rw [if_neg Int64.lt_irrefl, if_pos rfl]
def CtL (l : Launch) (y : MethodName) (ws : List Cond) (fr lo : Nat) (D : va_G) (tys : List (ClassId × FieldType)) (Bs : List va_W) (avs : List Value) (r : Int64) (Bs' : List va_W) : Prop :=
  Met l y ws { frames := fr, cells := 0, slots := 0, locals := lo } (va_Pc avs (fun U => va_P D vwCl Bs.flatten U.heap ∧ va_K D vwCl tys U ∧ va_D (fun _ => True) Bs.flatten)) (va_Ql (S := Unit) (fun r' _ => r' = r) (fun _ t => va_P D vwCl Bs'.flatten t.heap) (bA Bs)) 0 0 (bA Bs)
theorem j_lret {B0 Bs' : List va_W} {x r : Int64} (cx : Cx p s m args meth c cc nL own Ts D tys) (hr : meth.sig.returnType = some .long) (hx : x = r) (hB : Bs = Bs') (hA : A = bA B0) (dg : decode cc pc = .ok (.lreturn, 1)) : J p l e R s m args below meth c nL D A cells slots (MQ below (va_Ql (S := Unit) (fun r' _ => r' = r) (fun _ t => va_P D vwCl Bs'.flatten t.heap) (bA B0)) args s cells slots (bA B0)) Bs pc lv [.long x] := by
  intro H locs ls hP hD hS hl
  subst hB; subst hx; subst hA
  exact W.lret (v := x) cx.1 cx.2.1 hr (fun t ht hW => ⟨⟨x, (), rfl, rfl, by show va_P _ _ _ t.heap; rw [ht]; exact hP⟩, hS.F ht⟩) hS.2.2 dg cx.2.2.2.2.2.2
section CALLS2
variable {y : MethodName} {ws ws0 : List Cond} {fr lo maxL : Nat} {bytes : ByteArray} {ret : Option FieldType} {Bc Bc' Bs' : List va_W} {As : List Value} {stk : List Value} {index : Nat}
theorem j_csi (cx : Cx p s m args meth c cc nL own Ts D tys) (n : Nat) {r : Int32} (hM : CtI l y ws fr lo D tys Bc As r Bc') (hG : GoodIn Ts (va_wsS own index y ws)) (hw : ws = Cond.code y bytes maxL ret :: ws0) (hd : y.cls ≠ "java/lang/invoke/MethodHandle" ∧ y.cls ≠ "java/lang/invoke/VarHandle" ∧ (parseMethodDescriptor y.desc).map (fun d => d.parameters.length) = some n) (hnA : As.length = n) (hR : fr + 1 ≤ R.frames ∧ 8 + (maxL + 11) + lo ≤ R.locals) (sel : List Nat) (hsel : sel.map (fun i => Bs[i]?) = Bc.map some) (hnd : va_nd sel = true) (hB : putL Bs sel Bc' = Bs') (had : adr Bc' = adr Bc) (hst : stk = As.reverse ++ st) (hcat : (st.map fun v => v.category).sum ≤ 8) (dg : decode cc pc = .ok (.invokestatic index, 3)) (hroom : cells ≤ R.cells ∧ slots ≤ R.slots) (kk : J p l e R s m args below meth c nL D A cells slots Q Bs' (pc + 3) lv (.int r :: st)) : J p l e R s m args below meth c nL D A cells slots Q Bs pc lv stk := by
  intro H locs ls hP hD hS hl
  subst hst
  obtain ⟨gP, gD, gA⟩ := fl_sub hP hD hsel hnd
  refine va_calli (va_runS (As := As) (rest := st) ⟨cx.1, cx.2.1, cx.2.2.1, cx.2.2.2.1, cx.2.2.2.2.1⟩ hM (va_cwS n cx.2.2.2.2.1 hG hw rfl rfl hd hR) ⟨ct_blind, fun U hU hW => ⟨rfl, by rw [hU]; exact gP, va_K.moved hW.alike cx.2.2.2.2.2.1, gD.weaken (fun _ _ _ _ => trivial)⟩⟩ rfl hnA hl.1 rfl (lv_room hcat) dg ⟨hroom.1, hroom.2⟩) hS (fun q _ h => gA q h) gA (fun r' u t H1 locs1 ht hvm hw2 hB2 hz hk hS1 => ?_)
  subst hw2
  rw [ht] at hB2
  obtain ⟨nP, nD⟩ := fl_call hP hD hsel hnd hB had hk hB2
  exact kk H1 locs1 ls nP nD hS1 hl
theorem j_csl (cx : Cx p s m args meth c cc nL own Ts D tys) (n : Nat) {r : Int64} (hM : CtL l y ws fr lo D tys Bc As r Bc') (hG : GoodIn Ts (va_wsS own index y ws)) (hw : ws = Cond.code y bytes maxL ret :: ws0) (hd : y.cls ≠ "java/lang/invoke/MethodHandle" ∧ y.cls ≠ "java/lang/invoke/VarHandle" ∧ (parseMethodDescriptor y.desc).map (fun d => d.parameters.length) = some n) (hnA : As.length = n) (hR : fr + 1 ≤ R.frames ∧ 8 + (maxL + 11) + lo ≤ R.locals) (sel : List Nat) (hsel : sel.map (fun i => Bs[i]?) = Bc.map some) (hnd : va_nd sel = true) (hB : putL Bs sel Bc' = Bs') (had : adr Bc' = adr Bc) (hst : stk = As.reverse ++ st) (hcat : (st.map fun v => v.category).sum ≤ 8) (dg : decode cc pc = .ok (.invokestatic index, 3)) (hroom : cells ≤ R.cells ∧ slots ≤ R.slots) (kk : J p l e R s m args below meth c nL D A cells slots Q Bs' (pc + 3) lv (.long r :: st)) : J p l e R s m args below meth c nL D A cells slots Q Bs pc lv stk := by
  intro H locs ls hP hD hS hl
  subst hst
  obtain ⟨gP, gD, gA⟩ := fl_sub hP hD hsel hnd
  refine va_calll (va_runS (As := As) (rest := st) ⟨cx.1, cx.2.1, cx.2.2.1, cx.2.2.2.1, cx.2.2.2.2.1⟩ hM (va_cwS n cx.2.2.2.2.1 hG hw rfl rfl hd hR) ⟨ct_blind, fun U hU hW => ⟨rfl, by rw [hU]; exact gP, va_K.moved hW.alike cx.2.2.2.2.2.1, gD.weaken (fun _ _ _ _ => trivial)⟩⟩ rfl hnA hl.1 rfl (lv_room hcat) dg ⟨hroom.1, hroom.2⟩) hS (fun q _ h => gA q h) gA (fun r' u t H1 locs1 ht hvm hw2 hB2 hz hk hS1 => ?_)
  subst hw2
  rw [ht] at hB2
  obtain ⟨nP, nD⟩ := fl_call hP hD hsel hnd hB had hk hB2
  exact kk H1 locs1 ls nP nD hS1 hl
theorem j_csv (cx : Cx p s m args meth c cc nL own Ts D tys) (n : Nat) (hM : CtV l y ws fr lo D tys Bc As Bc') (hG : GoodIn Ts (va_wsS own index y ws)) (hw : ws = Cond.code y bytes maxL ret :: ws0) (hd : y.cls ≠ "java/lang/invoke/MethodHandle" ∧ y.cls ≠ "java/lang/invoke/VarHandle" ∧ (parseMethodDescriptor y.desc).map (fun d => d.parameters.length) = some n) (hnA : As.length = n) (hR : fr + 1 ≤ R.frames ∧ 8 + (maxL + 11) + lo ≤ R.locals) (sel : List Nat) (hsel : sel.map (fun i => Bs[i]?) = Bc.map some) (hnd : va_nd sel = true) (hB : putL Bs sel Bc' = Bs') (had : adr Bc' = adr Bc) (hst : stk = As.reverse ++ st) (hcat : (st.map fun v => v.category).sum ≤ 8) (dg : decode cc pc = .ok (.invokestatic index, 3)) (hroom : cells ≤ R.cells ∧ slots ≤ R.slots) (kk : J p l e R s m args below meth c nL D A cells slots Q Bs' (pc + 3) lv (st)) : J p l e R s m args below meth c nL D A cells slots Q Bs pc lv stk := by
  intro H locs ls hP hD hS hl
  subst hst
  obtain ⟨gP, gD, gA⟩ := fl_sub hP hD hsel hnd
  refine va_callv (va_runS (As := As) (rest := st) ⟨cx.1, cx.2.1, cx.2.2.1, cx.2.2.2.1, cx.2.2.2.2.1⟩ hM (va_cwS n cx.2.2.2.2.1 hG hw rfl rfl hd hR) ⟨ct_blind, fun U hU hW => ⟨rfl, by rw [hU]; exact gP, va_K.moved hW.alike cx.2.2.2.2.2.1, gD.weaken (fun _ _ _ _ => trivial)⟩⟩ rfl hnA hl.1 rfl (lv_room hcat) dg ⟨hroom.1, hroom.2⟩) hS (fun q _ h => gA q h) gA (fun u t H1 locs1 ht hvm hw2 hB2 hz hk hS1 => ?_)
  rw [ht] at hB2
  obtain ⟨nP, nD⟩ := fl_call hP hD hsel hnd hB had hk hB2
  exact kk H1 locs1 ls nP nD hS1 hl
end CALLS2
/-! the script, given to a helper -/
def CtX (l : Launch) (y : MethodName) (ws : List Cond) (fr lo : Nat) (D : va_G) (tys : List (ClassId × FieldType)) (b L : Nat) (xs : Nat → Int32) (avs : List Value) (r : Int32) : Prop :=
  Met l y ws { frames := fr, cells := 0, slots := 0, locals := lo } (va_Pc avs (fun U => va_X b L xs U U.heap ∧ va_K D vwCl tys U)) (va_Qi (S := Unit) (fun r' _ => r' = r) (fun _ _ => True) (fun _ => False)) 0 0 (fun _ => False)
theorem cx_blind {avs : List Value} {b L : Nat} {xs : Nat → Int32} : FrameBlind (va_Pc avs (fun U => va_X b L xs U U.heap ∧ va_K D vwCl tys U)) := fun a U g mk q => by
  obtain ⟨q0, qX, qK⟩ := q
  exact ⟨q0, va_X.moved (u := U) (U := U.calling g mk a) (Vm.Alike.refl U.vm) qX, va_K.moved (u := U) (U := U.calling g mk a) (Vm.Alike.refl U.vm) qK⟩
theorem va_X_lt {b L : Nat} {xs : Nat → Int32} {U : State} {H : Heap} (h : va_X b L xs U H) : b < H.size := by
  obtain ⟨scr, h1, -⟩ := h
  exact (Array.getElem?_eq_some_iff.mp h1).1
theorem j_sld (cx : Cx p s m args meth c cc nL own Ts D tys) {b L k : Nat} {xs : Nat → Int32} (hX : va_X b L xs s s.heap) (hbA : ¬ A b) (hk : k < L) (hL : L < 2 ^ 31) (dg : decode cc pc = .ok (.iaload, 1)) (kk : J p l e R s m args below meth c nL D A cells slots Q Bs (pc + 1) lv (.int (xs k) :: st)) : J p l e R s m args below meth c nL D A cells slots Q Bs pc lv (.int (nI k) :: .ref b :: st) := by
  intro H locs ls hP hD hS hl
  have hk31 : k < 2 ^ 31 := by omega
  refine va_sld cx.1 cx.2.1 hX (va_X_lt hX) hbA hS (vp_in_nI hk (by omega)) dg ?_
  rw [nI_clamp hk31]
  exact kk H locs ls hP hD hS hl
theorem j_slen (cx : Cx p s m args meth c cc nL own Ts D tys) {b L : Nat} {xs : Nat → Int32} (hX : va_X b L xs s s.heap) (hbA : ¬ A b) (dg : decode cc pc = .ok (.arraylength, 1)) (kk : J p l e R s m args below meth c nL D A cells slots Q Bs (pc + 1) lv (.int (nI L) :: st)) : J p l e R s m args below meth c nL D A cells slots Q Bs pc lv (.ref b :: st) := by
  intro H locs ls hP hD hS hl
  exact va_slen cx.1 cx.2.1 hX (va_X_lt hX) hbA hS dg (kk H locs ls hP hD hS hl)
theorem j_xret {x r : Int32} (cx : Cx p s m args meth c cc nL own Ts D tys) (hr : meth.sig.returnType = some .int) (hx : x = r) (hA : A = fun _ => False) (dg : decode cc pc = .ok (.ireturn, 1)) : J p l e R s m args below meth c nL D A cells slots (MQ below (va_Qi (S := Unit) (fun r' _ => r' = r) (fun _ _ => True) (fun _ => False)) args s cells slots (fun _ => False)) Bs pc lv [.int x] := by
  intro H locs ls hP hD hS hl
  subst hx; subst hA
  exact W.iret (v := x) cx.1 cx.2.1 hr (fun t ht hW => ⟨⟨x, (), rfl, rfl, trivial⟩, hS.F ht⟩) hS.2.2 dg cx.2.2.2.2.2.2
theorem j_csx (cx : Cx p s m args meth c cc nL own Ts D tys) {y : MethodName} {ws ws0 : List Cond} {fr lo maxL : Nat} {bytes : ByteArray} {ret : Option FieldType} {As : List Value} {stk : List Value} {index : Nat} (n : Nat) {b L : Nat} {xs : Nat → Int32} {r : Int32} (hX : va_X b L xs s s.heap) (hbA : ¬ A b) (hM : CtX l y ws fr lo D tys b L xs As r) (hG : GoodIn Ts (va_wsS own index y ws)) (hw : ws = Cond.code y bytes maxL ret :: ws0) (hd : y.cls ≠ "java/lang/invoke/MethodHandle" ∧ y.cls ≠ "java/lang/invoke/VarHandle" ∧ (parseMethodDescriptor y.desc).map (fun d => d.parameters.length) = some n) (hnA : As.length = n) (hR : fr + 1 ≤ R.frames ∧ 8 + (maxL + 11) + lo ≤ R.locals) (hst : stk = As.reverse ++ st) (hcat : (st.map fun v => v.category).sum ≤ 8) (dg : decode cc pc = .ok (.invokestatic index, 3)) (hroom : cells ≤ R.cells ∧ slots ≤ R.slots) (kk : J p l e R s m args below meth c nL D A cells slots Q Bs (pc + 3) lv (.int r :: st)) : J p l e R s m args below meth c nL D A cells slots Q Bs pc lv stk := by
  intro H locs ls hP hD hS hl
  subst hst
  refine va_calli (va_runS (As := As) (rest := st) ⟨cx.1, cx.2.1, cx.2.2.1, cx.2.2.2.1, cx.2.2.2.2.1⟩ hM (va_cwS n cx.2.2.2.2.1 hG hw rfl rfl hd hR) ⟨cx_blind, fun U hU hW => ⟨rfl, va_X.moved hW.alike (by rw [hU]; exact hX.kept (hS.2.1 b (va_X_lt hX) hbA)), va_K.moved hW.alike cx.2.2.2.2.2.1⟩⟩ rfl hnA hl.1 rfl (lv_room hcat) dg ⟨hroom.1, hroom.2⟩) hS (fun q _ h => h.elim) (fun q h => h.elim) (fun r' u t H1 locs1 ht hvm hw2 hB2 hz hk hS1 => ?_)
  subst hw2
  obtain ⟨nP, nD⟩ := fl_call hP hD (sel := []) (Bc := []) (Bc' := []) (Bs' := Bs) rfl rfl rfl rfl (fun q hq _ => hk q hq id) (H1 := H1) (fun k q h => by simp at h)
  exact kk H1 locs1 ls nP nD hS1 hl
end JR2
theorem CtL.intro {own : String} {l : Launch} {y : MethodName} {ws ws0 : List Cond} {fr lo : Nat} {D : va_G} {tys : List (ClassId × FieldType)} {Bs Bs' : List va_W} {avs : List Value} {r : Int64} {cc : ByteArray} {maxL : Nat} {ret : Option FieldType} (ho : y.cls = own) (hy : plainName own = true) (hw : ws = Cond.code y cc maxL ret :: ws0) (hle : (lg_sl avs).length ≤ maxL)
    (body : ∀ (p : Program) (e : Env) (s : State) (m : MethodId) (args : Array Value) (below : List Frame) (meth : Method) (c : Code) (A : Nat → Prop) (Q : State → Prop), A = bA Bs → Q = MQ below (va_Ql (S := Unit) (fun r' _ => r' = r) (fun _ t => va_P D vwCl Bs'.flatten t.heap) (bA Bs)) args s 0 0 (bA Bs) → Cx p s m args meth c cc maxL own ws D tys → meth.sig.returnType = ret → J p l e { frames := fr, cells := 0, slots := 0, locals := lo } s m args below meth c maxL D A 0 0 Q Bs 0 (lv_args 0 avs) []) : CtL l y ws fr lo D tys Bs avs r Bs' := by
  subst ho
  refine Met.ofW (cc := cc) (maxL := maxL) (ret := ret) hy hw ?_
  intro p e s m args below meth c s₁ B hml hv
  obtain ⟨rfl, hP, hK, hD⟩ := hv
  rw [lg_entry_eq]
  refine body p e s m avs.toArray below meth c (bA Bs) _ rfl rfl ⟨B.exec, B.bytes, hml, findClass_of_methodNamed B.named, atoms_spec (ws := ws) B.pre, hK, B.notSynchronized⟩ B.returns s.heap [] _ hP ?_ va_S.rf (lv_entry avs hle)
  exact hD.weaken (fun k q hk _ => ⟨q, List.mem_of_getElem? hk, rfl⟩)
theorem CtX.intro {own : String} {l : Launch} {y : MethodName} {ws ws0 : List Cond} {fr lo : Nat} {D : va_G} {tys : List (ClassId × FieldType)} {b L : Nat} {xs : Nat → Int32} {avs : List Value} {r : Int32} {cc : ByteArray} {maxL : Nat} {ret : Option FieldType} (ho : y.cls = own) (hy : plainName own = true) (hw : ws = Cond.code y cc maxL ret :: ws0) (hle : (lg_sl avs).length ≤ maxL)
    (body : ∀ (p : Program) (e : Env) (s : State) (m : MethodId) (args : Array Value) (below : List Frame) (meth : Method) (c : Code) (A : Nat → Prop) (Q : State → Prop), (A = fun _ => False) → Q = MQ below (va_Qi (S := Unit) (fun r' _ => r' = r) (fun _ _ => True) (fun _ => False)) args s 0 0 (fun _ => False) → Cx p s m args meth c cc maxL own ws D tys → meth.sig.returnType = ret → va_X b L xs s s.heap → J p l e { frames := fr, cells := 0, slots := 0, locals := lo } s m args below meth c maxL D A 0 0 Q [] 0 (lv_args 0 avs) []) : CtX l y ws fr lo D tys b L xs avs r := by
  subst ho
  refine Met.ofW (cc := cc) (maxL := maxL) (ret := ret) hy hw ?_
  intro p e s m args below meth c s₁ B hml hv
  obtain ⟨rfl, hX, hK⟩ := hv
  rw [lg_entry_eq]
  exact body p e s m avs.toArray below meth c (fun _ => False) _ rfl rfl ⟨B.exec, B.bytes, hml, findClass_of_methodNamed B.named, atoms_spec (ws := ws) B.pre, hK, B.notSynchronized⟩ B.returns hX s.heap [] _ (fun k q h => by simp at h) ⟨fun i j p q h => by simp at h, fun k q h => by simp at h⟩ va_S.rf (lv_entry avs hle)
