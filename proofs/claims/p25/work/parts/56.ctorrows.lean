/-! constructors: a world that grows; a contract of a method that makes cells -/
def nA (Bs : List va_W) (sz : Nat) : Nat → Prop := fun q => bA Bs q ∨ sz ≤ q
/-- what a start gives of the tables beside the words: arrays over classes, private constructors of nest mates -/
def AO3 (U : State) : Prop := va_AO "FourPhases$Line" U ∧ va_AO "FourPhases$Link" U ∧ va_AO "FourPhases$Row" U
def NW5 (U : State) : Prop := va_Nw (.methodLinkNest RX2 32 yX0_init RX7) U ∧ va_Nw (.methodLinkNest RX2 39 yX4_init RX7) U ∧ va_Nw (.methodLinkNest RX2 47 yX3_init RX7) U ∧ va_Nw (.methodLinkNest RX2 48 yX5_init RX7) U ∧ va_Nw (.methodLinkNest RX7 35 yX6_init RX7) U
def AOs (U : State) : Prop := AO3 U ∧ NW5 U
theorem AOs.warm {s U : State} (hW : s.WarmedH U.vm) (h : AOs s) : AOs U := ⟨⟨h.1.1.moved hW.alike, h.1.2.1.moved hW.alike, h.1.2.2.moved hW.alike⟩, va_Nw.warmM hW h.2.1, va_Nw.warmM hW h.2.2.1, va_Nw.warmM hW h.2.2.2.1, va_Nw.warmM hW h.2.2.2.2.1, va_Nw.warmM hW h.2.2.2.2.2⟩
theorem AOs.calls {U V : State} (e : U.vm = V.vm) (h : AOs U) : AOs V := by
  have ha : U.vm.Alike V.vm := by rw [e]; exact Vm.Alike.refl _
  exact ⟨⟨h.1.1.moved ha, h.1.2.1.moved ha, h.1.2.2.moved ha⟩, va_Nw.same rfl e h.2.1, va_Nw.same rfl e h.2.2.1, va_Nw.same rfl e h.2.2.2.1, va_Nw.same rfl e h.2.2.2.2.1, va_Nw.same rfl e h.2.2.2.2.2⟩
/-- an address function with the own address at its beginning -/
def cns (a : Nat) (u : Nat → Nat) : Nat → Nat := fun k => if k = 0 then a else u k
def CtN {S : Type} (l : Launch) (y : MethodName) (ws : List Cond) (fr lo mc ms : Nat) (D : va_G) (tys : List (ClassId × FieldType)) (Bs : List va_W) (avs : List Value) (Bs' : S → List va_W) : Prop :=
  ∀ sz : Nat, Met l y ws { frames := fr, cells := mc, slots := ms, locals := lo } (va_Pc avs (fun U => U.heap.size = sz ∧ va_P D vwCl Bs.flatten U.heap ∧ va_K D vwCl tys U ∧ va_D (fun _ => True) Bs.flatten ∧ AOs U)) (va_Qv (S := S) (fun _ => True) (fun u t => va_P D vwCl (Bs' u).flatten t.heap ∧ va_D (nA Bs sz) (Bs' u).flatten) (nA Bs sz)) mc ms (nA Bs sz)
theorem cn_blind {Bs : List va_W} {avs : List Value} {sz : Nat} {D : va_G} {tys : List (ClassId × FieldType)} : FrameBlind (va_Pc avs (fun U => U.heap.size = sz ∧ va_P D vwCl Bs.flatten U.heap ∧ va_K D vwCl tys U ∧ va_D (fun _ => True) Bs.flatten ∧ AOs U)) := fun a U g mk q => by
  obtain ⟨q0, q1, qP, qK, qD, qA⟩ := q
  exact ⟨q0, q1, qP, va_K.moved (u := U) (U := U.calling g mk a) (Vm.Alike.refl U.vm) qK, qD, AOs.calls (U := U) (V := U.calling g mk a) rfl qA⟩
theorem CtN.intro {S : Type} {own : String} {l : Launch} {y : MethodName} {ws ws0 : List Cond} {fr lo mc ms : Nat} {D : va_G} {tys : List (ClassId × FieldType)} {Bs : List va_W} {Bs' : S → List va_W} {avs : List Value} {cc : ByteArray} {maxL : Nat} (ho : y.cls = own) (hn : y.name = "<init>") (hy : plainName own = true) (hw : ws = Cond.code y cc maxL none :: ws0) (hle : (lg_sl avs).length ≤ maxL)
    (body : ∀ (p : Program) (e : Env) (s : State) (m : MethodId) (args : Array Value) (below : List Frame) (meth : Method) (c : Code) (A : Nat → Prop) (Q : State → Prop), A = nA Bs s.heap.size → Q = MQ below (va_Qv (S := S) (fun _ => True) (fun u t => va_P D vwCl (Bs' u).flatten t.heap ∧ va_D (nA Bs s.heap.size) (Bs' u).flatten) (nA Bs s.heap.size)) args s mc ms (nA Bs s.heap.size) → (∀ q, s.heap.size ≤ q → A q) → AOs s → meth.name = "<init>" → Cx p s m args meth c cc maxL own ws D tys → meth.sig.returnType = none → J p l e { frames := fr, cells := mc, slots := ms, locals := lo } s m args below meth c maxL D A 0 0 Q Bs 0 (lv_args 0 avs) []) : CtN l y ws fr lo mc ms D tys Bs avs Bs' := by
  subst ho
  intro sz
  refine Met.ofW (cc := cc) (maxL := maxL) (ret := none) hy hw ?_
  intro p e s m args below meth c s₁ B hml hv
  obtain ⟨rfl, hsz, hP, hK, hD, hao⟩ := hv
  subst hsz
  rw [lg_entry_eq]
  refine body p e s m avs.toArray below meth c (nA Bs s.heap.size) _ rfl rfl (fun q h => Or.inr h) hao ?_ ⟨B.exec, B.bytes, hml, findClass_of_methodNamed B.named, atoms_spec (ws := ws) B.pre, hK, B.notSynchronized⟩ B.returns s.heap [] _ hP ?_ va_S.rf (lv_entry avs hle)
  · rw [← hn]; exact (name_of_methodNamed B.named B.method).1
  · exact hD.weaken (fun k q hk _ => Or.inl ⟨q, List.mem_of_getElem? hk, rfl⟩)
section CTR
variable {p : Program} {l : Launch} {e : Env} {R : Room} {s : State} {m : MethodId} {args : Array Value} {below : List Frame} {meth : Method} {c : Code} {cc : ByteArray} {nL : Nat} {own : String} {Ts : List Cond} {D : va_G} {tys : List (ClassId × FieldType)} {A : Nat → Prop} {cells slots : Nat} {Q : State → Prop} {Bs : List va_W} {lv : List (Nat × Value)} {st : List Value} {pc : Nat}
theorem fl_snoc (Bs : List va_W) (x : Nat × va_E) : (Bs ++ [[x]]).flatten = Bs.flatten ++ [x] := by simp
theorem j_flat {Bs' : List va_W} (h : Bs.flatten = Bs'.flatten) (kk : J p l e R s m args below meth c nL D A cells slots Q Bs' pc lv st) : J p l e R s m args below meth c nL D A cells slots Q Bs pc lv st :=
  fun H locs ls hP hD hS hl => kk H locs ls (h ▸ hP) (h ▸ hD) hS hl
theorem perm9 {α : Type} (f n t s h g3 g4 g5 g6 x : List α) : (f ++ n ++ t ++ s ++ (h ++ g3 ++ g4 ++ g5 ++ g6) ++ x).Perm (h ++ n ++ g3 ++ g4 ++ g5 ++ g6 ++ t ++ s ++ f ++ x) := by
  classical
  rw [List.perm_iff_count]
  intro a
  simp only [List.count_append]
  omega
theorem j_perm {Bs' : List va_W} (h : Bs.Perm Bs') (kk : J p l e R s m args below meth c nL D A cells slots Q Bs' pc lv st) : J p l e R s m args below meth c nL D A cells slots Q Bs pc lv st :=
  fun H locs ls hP hD hS hl => by
    have hf := h.flatten
    refine kk H locs ls ?_ ?_ hS hl
    · rw [va_P_mem] at hP ⊢
      exact fun x hx => hP x (hf.mem_iff.mpr hx)
    · rw [va_D_iff] at hD ⊢
      exact ⟨(hf.map Prod.fst).nodup_iff.mp hD.1, fun a ha => hD.2 a ((hf.map Prod.fst).mem_iff.mpr ha)⟩
/-- the world's blocks, picked and set in another order -/
theorem j_resel {Bs' : List va_W} (sel : List Nat) (hsel : sel.map (fun i => Bs[i]?) = Bs'.map some) (hnd : va_nd sel = true) (kk : J p l e R s m args below meth c nL D A cells slots Q Bs' pc lv st) : J p l e R s m args below meth c nL D A cells slots Q Bs pc lv st :=
  fun H locs ls hP hD hS hl => by
    obtain ⟨gP, gD, -⟩ := fl_sub hP hD hsel hnd
    exact kk H locs ls gP gD hS hl
theorem j_widen {k n : Nat} (h1 : cells ≤ k) (h2 : slots ≤ n) (kk : J p l e R s m args below meth c nL D A k n Q Bs pc lv st) : J p l e R s m args below meth c nL D A cells slots Q Bs pc lv st :=
  fun H locs ls hP hD hS hl => W.widen h1 h2 (kk H locs ls hP hD hS hl)
theorem refs_ext {cA : ClassId} {n : Nat} {f g : Nat → Option Nat} (h : ∀ k, k < n → f k = g k) : vp_cell cA (n, .inr (.inr (.inr (.inr f)))) = vp_cell cA (n, .inr (.inr (.inr (.inr g)))) := by
  rw [vp_cell_q, vp_cell_q]
  unfold arrV
  congr 1
  apply Array.ext
  · simp
  · intro i h1 h2
    simp only [Array.getElem_ofFn]
    rw [h i (by simpa using h1)]
/-- an array of references: only its own places count -/
theorem j_arrext (i j : Nat) {b : va_W} {a n : Nat} {cA : ClassId} {f g : Nat → Option Nat} (h1 : Bs[i]? = some b) (h2 : b[j]? = some (a, .inl (cA, n, .inr (.inr (.inr (.inr f)))))) (hfg : ∀ k, k < n → f k = g k) {Bs' : List va_W} (hB : Bs.set i (b.set j (a, .inl (cA, n, .inr (.inr (.inr (.inr g)))))) = Bs') (kk : J p l e R s m args below meth c nL D A cells slots Q Bs' pc lv st) : J p l e R s m args below meth c nL D A cells slots Q Bs pc lv st := by
  intro H locs ls hP hD hS hl
  obtain ⟨k0, g1, g2⟩ := fl_pl h1 h2
  have g3 := g2 (a, .inl (cA, n, .inr (.inr (.inr (.inr g)))))
  rw [hB] at g3
  refine kk H locs ls ?_ (by rw [← hB]; exact va_D_adr hD (adr_set h1 h2)) hS hl
  rw [← g3]
  intro k q hk
  by_cases hkk : k0 = k
  · subst hkk
    rw [List.getElem?_set_self (List.getElem?_eq_some_iff.mp g1).1] at hk
    cases hk
    have h9 := hP k0 _ g1
    show H[a]? = some (vp_cell _ _)
    rw [← refs_ext hfg]
    exact h9
  · rw [List.getElem?_set_ne hkk] at hk
    exact hP k q hk
theorem j_objInit (cx : Cx p s m args meth c cc nL own Ts D tys) {idx a : Nat} (hlink : Cond.methodLink own idx objectInit ∈ Ts) (hinst : Cond.instanceMethod objectInit ∈ Ts) (hcode : Cond.code objectInit ⟨#[0xb1]⟩ 1 none ∈ Ts) (dg : decode cc pc = .ok (.invokespecial idx, 3)) (hfr : 1 ≤ R.frames) (hlo : (st.map fun v => v.category).sum + 12 ≤ R.locals)
    (kk : J p l e R s m args below meth c nL D A cells slots Q Bs (pc + 3) lv st) : J p l e R s m args below meth c nL D A cells slots Q Bs pc lv (.ref a :: st) := by
  intro H locs ls hP hD hS hl
  refine W.objInit cx.1 cx.2.1 cx.2.2.2.1 (cx.2.2.2.2.1 _ hlink) (cx.2.2.2.2.1 _ hinst) (cx.2.2.2.2.1 _ hcode) rfl (by rw [cx.2.2.1]; exact hl.1) rfl dg hfr (by show 2 * 0 + _ + 12 ≤ _; omega) ?_
  exact W.eq (g2 := F0 m (pc + 3) ls st) rfl (kk H locs ls hP hD hS hl)
theorem j_new (cx : Cx p s m args meth c cc nL own Ts D tys) {C : String} {T : u_T} {N ci index : Nat} (hin : ∀ w ∈ u_ws C T N, w ∈ Ts) (ty : Nat → FieldType) (hty : ∀ k, k < N → parseFieldDescriptor (T k).2.2.1 = some (ty k)) (hcl : Cond.classLink own index C ∈ Ts) (hinst : Cond.instantiable C N ∈ Ts) (hini : Cond.initialized C ∈ Ts) (hA : ∀ q, s.heap.size ≤ q → A q) (hc : vwCl[ci]? = some (C, T, N)) {fs : List Value} (hfs : ∀ j, j < N → defaultValue (ty j) = vp_V fs j) (hcells : cells + 1 ≤ R.cells) (hslots : slots + N ≤ R.slots) (dg : decode cc pc = .ok (.new index, 3))
    (kk : ∀ q : Nat, J p l e R s m args below meth c nL D A (cells + 1) (slots + N) Q (Bs ++ [[(q, .inr (ci, fs))]]) (pc + 3) lv (.ref q :: st)) : J p l e R s m args below meth c nL D A cells slots Q Bs pc lv st := by
  intro H locs ls hP hD hS hl
  refine va_new cx.1 cx.2.1 cx.2.2.2.2.1 hin ty hty cx.2.2.2.1 (cx.2.2.2.2.1 _ hcl) (cx.2.2.2.2.1 _ hinst) (cx.2.2.2.2.1 _ hini) cx.2.2.2.2.2.1 hP hD hS hA hc hfs hcells hslots dg (fun q H1 hP1 hD1 hS1 => ?_)
  rw [← fl_snoc] at hP1 hD1
  exact kk q H1 locs ls hP1 hD1 hS1 hl
theorem j_newa (cx : Cx p s m args meth c cc nL own Ts D tys) {atype : ArrayType} {ty : FieldType} (hty : newarray.typeOf atype = ty) (harr : Cond.arrayClass ty ∈ Ts) (t0 : Nat) {cA : ClassId} (ht : tys[t0]? = some (cA, ty)) (hdef : defaultValue ty = .int 0) (hRA : ∀ c2 : ClassId, va_RA s cA ty → va_RA s c2 ty → c2 = cA) (hA : ∀ q, s.heap.size ≤ q → A q) {n : Nat} (hn : n < 2 ^ 31) (hbytes : n * componentBytes ty ≤ 536870912) (hcells : cells + 1 ≤ R.cells) (hslots : slots + n ≤ R.slots) (dg : decode cc pc = .ok (.newarray atype, 2))
    (kk : ∀ q : Nat, J p l e R s m args below meth c nL D A (cells + 1) (slots + n) Q (Bs ++ [[(q, .inl (cA, n, .inl (fun _ => 0)))]]) (pc + 2) lv (.ref q :: st)) : J p l e R s m args below meth c nL D A cells slots Q Bs pc lv (.int (nI n) :: st) := by
  intro H locs ls hP hD hS hl
  refine va_newa cx.1 cx.2.1 (atype := atype) (ty := ty) (by rw [hty]; exact cx.2.2.2.2.1 _ harr) hty cx.2.2.2.2.2.1 hP hD hS hA (N' := n) (a0 := (n, .inl (fun _ => 0))) (fun c2 => by rw [vp_cell_i, hdef]) (nI_pos hn) (nI_clamp hn) hbytes hcells hslots dg (fun q c2 H1 hK1 hP1 hD1 hS1 => ?_)
  have e1 : va_RA s c2 ty := (hK1.2 tys.length (c2, ty) (by simp)).2
  have e2 : va_RA s cA ty := (cx.2.2.2.2.2.1.2 t0 _ ht).2
  have e3 := hRA c2 e2 e1
  subst e3
  rw [← fl_snoc] at hP1 hD1
  exact kk q H1 locs ls hP1 hD1 hS1 hl
theorem ra_int (cA : ClassId) : ∀ c2 : ClassId, va_RA s cA .int → va_RA s c2 .int → c2 = cA := fun c2 h1 h2 => Option.some.inj (h2.symm.trans h1)
theorem ra_char (cA : ClassId) : ∀ c2 : ClassId, va_RA s cA .char → va_RA s c2 .char → c2 = cA := fun c2 h1 h2 => Option.some.inj (h2.symm.trans h1)
theorem j_anewa (cx : Cx p s m args meth c cc nL own Ts D tys) {C : String} {index : Nat} (hcl : Cond.classLink own index C ∈ Ts) (hao : va_AO C s) (t0 : Nat) {cA : ClassId} (ht : tys[t0]? = some (cA, .object C)) (hA : ∀ q, s.heap.size ≤ q → A q) {n : Nat} (hn : n < 2 ^ 31) (hbytes : n * 4 ≤ 536870912) (hcells : cells + 1 ≤ R.cells) (hslots : slots + n ≤ R.slots) (dg : decode cc pc = .ok (.anewarray index, 3))
    (kk : ∀ q : Nat, J p l e R s m args below meth c nL D A (cells + 1) (slots + n) Q (Bs ++ [[(q, .inl (cA, n, .inr (.inr (.inr (.inr (fun _ => none))))))]]) (pc + 3) lv (.ref q :: st)) : J p l e R s m args below meth c nL D A cells slots Q Bs pc lv (.int (nI n) :: st) := by
  intro H locs ls hP hD hS hl
  refine va_newq cx.1 cx.2.1 cx.2.2.2.1 (cx.2.2.2.2.1 _ hcl) hao cx.2.2.2.2.2.1 hP hD hS hA (N' := n) (nI_pos hn) (nI_clamp hn) hbytes hcells hslots dg (fun q c2 H1 hK1 hP1 hD1 hS1 => ?_)
  obtain ⟨k1, o1, -, -, -, e1⟩ : va_RA s c2 (.object C) := (hK1.2 tys.length (c2, .object C) (by simp)).2
  obtain ⟨k2, o2, -, -, -, e2⟩ : va_RA s cA (.object C) := (cx.2.2.2.2.2.1.2 t0 _ ht).2
  have e3 : c2 = cA := Option.some.inj (e1.symm.trans e2)
  subst e3
  rw [← fl_snoc] at hP1 hD1
  exact kk q H1 locs ls hP1 hD1 hS1 hl
theorem fl_grow {A : Nat → Prop} {Rr Bc Bc' : List va_W} {H H1 : Heap} (hP : va_P D vwCl (Rr ++ Bc).flatten H) (hD : va_D A (Rr ++ Bc).flatten) (hF : ∀ q, nA Bc H.size q → A q) (hk : ∀ q : Nat, q < H.size → ¬ nA Bc H.size q → H1[q]? = H[q]?) (hP1 : va_P D vwCl Bc'.flatten H1) (hD1 : va_D (nA Bc H.size) Bc'.flatten) : va_P D vwCl (Rr ++ Bc').flatten H1 ∧ va_D A (Rr ++ Bc').flatten := by
  rw [List.flatten_append] at hP hD ⊢
  have hR : ∀ x ∈ Rr.flatten, x.1 < H.size ∧ ¬ nA Bc H.size x.1 := by
    intro x hx
    have hat := va_P_mem.mp hP x (List.mem_append_left _ hx)
    refine ⟨hat.lt, ?_⟩
    rintro (⟨y, hy, e⟩ | h)
    · have hn := (va_D_iff.mp hD).1
      rw [List.map_append, List.nodup_append] at hn
      exact hn.2.2 _ (List.mem_map_of_mem hx) _ (List.mem_map_of_mem hy) e.symm
    · have := hat.lt; omega
  constructor
  · rw [va_P_mem] at hP hP1 ⊢
    intro x hx
    rcases List.mem_append.mp hx with h | h
    · exact (hP x (List.mem_append_left _ h)).kept (hk x.1 (hR x h).1 (hR x h).2)
    · exact hP1 x h
  · rw [va_D_iff] at hD hD1 ⊢
    rw [List.map_append, List.nodup_append] at hD
    rw [List.map_append, List.nodup_append]
    refine ⟨⟨hD.1.1, hD1.1, ?_⟩, ?_⟩
    · intro a ha b hb e
      subst e
      obtain ⟨x, hx, rfl⟩ := List.mem_map.mp ha
      exact (hR x hx).2 (hD1.2 _ hb)
    · intro a ha
      rcases List.mem_append.mp ha with h | h
      · exact hD.2 a (List.mem_append_left _ h)
      · exact hF a (hD1.2 a h)
/-- a constructor's call: its world stands at the end -/
theorem j_ctor {S : Type} {y : MethodName} {ws ws0 : List Cond} {fr lo mc ms maxL b index : Nat} {bytes : ByteArray} {Rr Bc : List va_W} {Bc' : S → List va_W} (cx : Cx p s m args meth c cc nL own Ts D tys) (hM : CtN l y ws fr lo mc ms D tys Bc [.ref b] Bc') (hG : GoodIn Ts ws) (hw : ws = Cond.code y bytes maxL none :: ws0) (hini : Cond.initialized y.cls ∈ Ts) (hl : Cond.methodLink own index y ∈ Ts) (hin : Cond.instanceMethod y ∈ Ts) (hy1 : y.name = "<init>") (hd : y.cls ≠ "java/lang/invoke/MethodHandle" ∧ y.cls ≠ "java/lang/invoke/VarHandle" ∧ (parseMethodDescriptor y.desc).map (fun d => d.parameters.length) = some 0) (hR : fr + 1 ≤ R.frames ∧ 8 + (maxL + 11) + lo ≤ R.locals) (hB : Bs = Rr ++ Bc) (hA : ∀ q, s.heap.size ≤ q → A q) (hao : AOs s) (hcat : (st.map fun v => v.category).sum ≤ 8) (dg : decode cc pc = .ok (.invokespecial index, 3)) (hroom : cells + mc ≤ R.cells ∧ slots + ms ≤ R.slots)
    (kk : ∀ u : S, J p l e R s m args below meth c nL D A (cells + mc) (slots + ms) Q (Rr ++ Bc' u) (pc + 3) lv st) : J p l e R s m args below meth c nL D A cells slots Q Bs pc lv (.ref b :: st) := by
  intro H locs ls hP hD hS hl2
  subst hB
  have hPc : va_P D vwCl Bc.flatten H := va_P_mem.mpr (fun x hx => va_P_mem.mp hP x (by rw [List.flatten_append]; exact List.mem_append_right _ hx))
  have hDc : va_D A Bc.flatten := by
    rw [va_D_iff] at hD ⊢
    rw [List.flatten_append, List.map_append, List.nodup_append] at hD
    exact ⟨hD.1.2.1, fun a ha => hD.2 a (List.mem_append_right _ ha)⟩
  have hF : ∀ q, nA Bc H.size q → A q := by
    rintro q (⟨x, hx, rfl⟩ | h)
    · exact (va_D_iff.mp hDc).2 _ (List.mem_map_of_mem hx)
    · exact hA q (Nat.le_trans hS.1 h)
  refine va_callv (va_runI (As := []) (rest := st) ⟨cx.1, cx.2.1, cx.2.2.1, cx.2.2.2.1, cx.2.2.2.2.1⟩ (hM H.size) (cwI 0 cx.2.2.2.2.1 hG hw rfl rfl (cx.2.2.2.2.1 _ hini) (cx.2.2.2.2.1 _ hl) (cx.2.2.2.2.1 _ hin) hy1 hd hR) ⟨cn_blind, fun U hU hW => ⟨rfl, by rw [hU], by rw [hU]; exact hPc, va_K.moved hW.alike cx.2.2.2.2.2.1, hDc.weaken (fun _ _ _ _ => trivial), hao.warm hW⟩⟩ rfl rfl hl2.1 rfl (lv_room hcat) dg hroom) hS (fun q _ h => hF q h) hF (fun u t H1 locs1 ht hvm hw2 hB2 hz hk hS1 => ?_)
  rw [ht] at hB2
  obtain ⟨nP, nD⟩ := fl_grow hP hD hF hk hB2.1 hB2.2
  exact kk u H1 locs1 ls nP nD hS1 hl2
/-- the same of a nest mate's private constructor -/
theorem j_ctorN {S : Type} {y : MethodName} {ws ws0 : List Cond} {fr lo mc ms maxL b index : Nat} {bytes : ByteArray} {Rr Bc : List va_W} {Bc' : S → List va_W} (cx : Cx p s m args meth c cc nL own Ts D tys) (hM : CtN l y ws fr lo mc ms D tys Bc [.ref b] Bc') (hG : GoodIn Ts ws) (hw : ws = Cond.code y bytes maxL none :: ws0) (hini : Cond.initialized y.cls ∈ Ts) {host : String} (hl : va_Nw (.methodLinkNest own index y host) s) (hin : Cond.instanceMethod y ∈ Ts) (hy1 : y.name = "<init>") (hd : y.cls ≠ "java/lang/invoke/MethodHandle" ∧ y.cls ≠ "java/lang/invoke/VarHandle" ∧ (parseMethodDescriptor y.desc).map (fun d => d.parameters.length) = some 0) (hR : fr + 1 ≤ R.frames ∧ 8 + (maxL + 11) + lo ≤ R.locals) (hB : Bs = Rr ++ Bc) (hA : ∀ q, s.heap.size ≤ q → A q) (hao : AOs s) (hcat : (st.map fun v => v.category).sum ≤ 8) (dg : decode cc pc = .ok (.invokespecial index, 3)) (hroom : cells + mc ≤ R.cells ∧ slots + ms ≤ R.slots)
    (kk : ∀ u : S, J p l e R s m args below meth c nL D A (cells + mc) (slots + ms) Q (Rr ++ Bc' u) (pc + 3) lv st) : J p l e R s m args below meth c nL D A cells slots Q Bs pc lv (.ref b :: st) := by
  intro H locs ls hP hD hS hl2
  subst hB
  have hPc : va_P D vwCl Bc.flatten H := va_P_mem.mpr (fun x hx => va_P_mem.mp hP x (by rw [List.flatten_append]; exact List.mem_append_right _ hx))
  have hDc : va_D A Bc.flatten := by
    rw [va_D_iff] at hD ⊢
    rw [List.flatten_append, List.map_append, List.nodup_append] at hD
    exact ⟨hD.1.2.1, fun a ha => hD.2 a (List.mem_append_right _ ha)⟩
  have hF : ∀ q, nA Bc H.size q → A q := by
    rintro q (⟨x, hx, rfl⟩ | h)
    · exact (va_D_iff.mp hDc).2 _ (List.mem_map_of_mem hx)
    · exact hA q (Nat.le_trans hS.1 h)
  refine va_callv (va_runIN (As := []) (rest := st) ⟨cx.1, cx.2.1, cx.2.2.1, cx.2.2.2.1, cx.2.2.2.2.1⟩ (hM H.size) ⟨va_cnB 0 cx.2.2.2.2.1 hG hw rfl rfl hl (cx.2.2.2.2.1 _ hini) hd hR, hy1, cx.2.2.2.2.1 _ hin⟩ ⟨cn_blind, fun U hU hW => ⟨rfl, by rw [hU], by rw [hU]; exact hPc, va_K.moved hW.alike cx.2.2.2.2.2.1, hDc.weaken (fun _ _ _ _ => trivial), hao.warm hW⟩⟩ rfl rfl hl2.1 rfl (lv_room hcat) dg hroom) hS (fun q _ h => hF q h) hF (fun u t H1 locs1 ht hvm hw2 hB2 hz hk hS1 => ?_)
  rw [ht] at hB2
  obtain ⟨nP, nD⟩ := fl_grow hP hD hF hk hB2.1 hB2.2
  exact kk u H1 locs1 ls nP nD hS1 hl2
theorem j_nret {S : Type} {B0 : List va_W} {Bs' : S → List va_W} (cx : Cx p s m args meth c cc nL own Ts D tys) (hr : meth.sig.returnType = none) (u : S) (hB : Bs = Bs' u) (hA : A = nA B0 s.heap.size) (dg : decode cc pc = .ok (.return_, 1)) : J p l e R s m args below meth c nL D A cells slots (MQ below (va_Qv (S := S) (fun _ => True) (fun u t => va_P D vwCl (Bs' u).flatten t.heap ∧ va_D (nA B0 s.heap.size) (Bs' u).flatten) (nA B0 s.heap.size)) args s cells slots (nA B0 s.heap.size)) Bs pc lv [] := by
  intro H locs ls hP hD hS hl
  subst hB; subst hA
  exact W.vret cx.1 cx.2.1 hr (fun t ht hW => ⟨⟨u, rfl, trivial, by rw [ht]; exact hP, hD⟩, hS.F ht⟩) hS.2.2 dg cx.2.2.2.2.2.2
end CTR
