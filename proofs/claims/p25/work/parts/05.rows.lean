/-! the world as blocks, a state by its place, locals and stack: J; each of the kit's rows said of J -/
def flE {α : Type} (x y : α) (l l' : List α) (k : Nat) : Prop := l[k]? = some x ∧ l.set k y = l'
theorem fl_pl : ∀ {Bs : List va_W} {i j : Nat} {b : va_W} {x : Nat × va_E}, Bs[i]? = some b → b[j]? = some x → ∃ k : Nat, Bs.flatten[k]? = some x ∧ ∀ y, Bs.flatten.set k y = (Bs.set i (b.set j y)).flatten
  | [], i, j, b, x, h1, _ => by simp at h1
  | b0 :: Bs, 0, j, b, x, h1, h2 => by
    have e : b0 = b := by simpa using h1
    subst e
    have hj : j < b0.length := (List.getElem?_eq_some_iff.mp h2).1
    refine ⟨j, ?_, fun y => ?_⟩
    · rw [List.flatten_cons, List.getElem?_append_left hj]; exact h2
    · rw [List.flatten_cons, List.set_append]; simp [hj]
  | b0 :: Bs, i + 1, j, b, x, h1, h2 => by
    have h1' : Bs[i]? = some b := by simpa using h1
    obtain ⟨k, g1, g2⟩ := fl_pl h1' h2
    refine ⟨b0.length + k, ?_, fun y => ?_⟩
    · rw [List.flatten_cons, List.getElem?_append_right (Nat.le_add_right _ _), Nat.add_sub_cancel_left]; exact g1
    · rw [List.flatten_cons, List.set_append, if_neg (Nat.not_lt.mpr (Nat.le_add_right _ _)), Nat.add_sub_cancel_left, g2 y]
      simp
def bA (Bs : List va_W) : Nat → Prop := fun q => ∃ x ∈ Bs.flatten, x.1 = q
theorem va_P_mem {D : va_G} {cl : List vw_C} {ws : va_W} {H : Heap} : va_P D cl ws H ↔ ∀ x ∈ ws, va_at D cl x H := by
  constructor
  · intro h x hx
    obtain ⟨i, hi⟩ := List.getElem?_of_mem hx
    exact h i x hi
  · intro h k q hk
    exact h q (List.mem_of_getElem? hk)
theorem va_D_iff {A : Nat → Prop} {ws : va_W} : va_D A ws ↔ (ws.map Prod.fst).Nodup ∧ ∀ a ∈ ws.map Prod.fst, A a := by
  constructor
  · intro h
    refine ⟨?_, ?_⟩
    · rw [List.Nodup, List.pairwise_iff_getElem]
      intro i j hi hj hij e
      have hi' : i < ws.length := by simpa using hi
      have hj' : j < ws.length := by simpa using hj
      have := h.1 i j ws[i] ws[j] (List.getElem?_eq_getElem hi') (List.getElem?_eq_getElem hj') (by simpa using e)
      omega
    · intro a ha
      obtain ⟨x, hx, rfl⟩ := List.mem_map.mp ha
      obtain ⟨i, hi⟩ := List.getElem?_of_mem hx
      exact h.2 i x hi
  · intro h
    refine ⟨?_, ?_⟩
    · intro i j x y hx hy e
      have hi := (List.getElem?_eq_some_iff.mp hx)
      have hj := (List.getElem?_eq_some_iff.mp hy)
      obtain ⟨hi, rfl⟩ := hi
      obtain ⟨hj, rfl⟩ := hj
      have hn := List.pairwise_iff_getElem.mp h.1
      rcases Nat.lt_trichotomy i j with q | q | q
      · exact absurd (by rw [List.getElem_map, List.getElem_map]; exact e) (hn i j (by simpa using hi) (by simpa using hj) q)
      · exact q
      · exact absurd (by rw [List.getElem_map, List.getElem_map]; exact e.symm) (hn j i (by simpa using hj) (by simpa using hi) q)
    · intro k q hk
      exact h.2 _ (List.mem_map_of_mem (List.mem_of_getElem? hk))
/-- the blocks of a callee, put back at their places -/
def putL : List va_W → List Nat → List va_W → List va_W
  | Bs, i :: is, b :: bs => putL (Bs.set i b) is bs
  | Bs, _, _ => Bs
def adr (Bs : List va_W) : List (List Nat) := Bs.map (fun b => b.map Prod.fst)
theorem adr_flat (Bs : List va_W) : Bs.flatten.map Prod.fst = (adr Bs).flatten := by
  unfold adr
  rw [List.map_flatten]
theorem putL_adr : ∀ {sel : List Nat} {Bs Bc Bc' : List va_W}, sel.map (fun i => Bs[i]?) = Bc.map some → adr Bc' = adr Bc → va_nd sel = true → adr (putL Bs sel Bc') = adr Bs
  | [], Bs, Bc, Bc', h, e, _ => by cases Bc' <;> rfl
  | i :: is, Bs, [], Bc', h, e, _ => by simp at h
  | i :: is, Bs, b :: bs, [], h, e, _ => by simp [adr] at e
  | i :: is, Bs, b :: bs, b' :: bs', h, e, hn => by
    simp only [List.map_cons, List.cons.injEq] at h
    simp only [adr, List.map_cons, List.cons.injEq] at e
    simp only [va_nd, Bool.and_eq_true, decide_eq_true_eq] at hn
    have hi : i < Bs.length := (List.getElem?_eq_some_iff.mp h.1).1
    have h2 : is.map (fun k => (Bs.set i b')[k]?) = bs.map some := by
      rw [← h.2]
      apply List.map_congr_left
      intro k hk
      have : i ≠ k := fun q => hn.1 (q ▸ hk)
      rw [List.getElem?_set_ne this]
    have := putL_adr (Bs := Bs.set i b') (Bc := bs) (Bc' := bs') h2 e.2 hn.2
    show adr (putL (Bs.set i b') is bs') = adr Bs
    rw [this]
    unfold adr
    rw [List.map_set, e.1]
    apply List.ext_getElem?
    intro k
    by_cases hk : i = k
    · subst hk
      rw [List.getElem?_set_self (by simpa using hi)]
      simp [h.1]
    · rw [List.getElem?_set_ne hk]
theorem putL_mem : ∀ {sel : List Nat} {Bs Bc Bc' : List va_W} {k : Nat} {b : va_W}, sel.map (fun i => Bs[i]?) = Bc.map some → (putL Bs sel Bc')[k]? = some b → va_nd sel = true → b ∈ Bc' ∨ (Bs[k]? = some b ∧ (k ∉ sel ∨ Bc'.length < sel.length))
  | [], Bs, Bc, Bc', k, b, h, hk, _ => by
    have : putL Bs [] Bc' = Bs := by cases Bc' <;> rfl
    rw [this] at hk
    exact Or.inr ⟨hk, Or.inl (by simp)⟩
  | i :: is, Bs, Bc, [], k, b, h, hk, _ => Or.inr ⟨hk, Or.inr (by simp)⟩
  | i :: is, Bs, [], b' :: bs', k, b, h, hk, _ => by simp at h
  | i :: is, Bs, b0 :: bs, b' :: bs', k, b, h, hk, hn => by
    simp only [List.map_cons, List.cons.injEq] at h
    simp only [va_nd, Bool.and_eq_true, decide_eq_true_eq] at hn
    have hi : i < Bs.length := (List.getElem?_eq_some_iff.mp h.1).1
    have h2 : is.map (fun k => (Bs.set i b')[k]?) = bs.map some := by
      rw [← h.2]
      apply List.map_congr_left
      intro k hk
      have : i ≠ k := fun q => hn.1 (q ▸ hk)
      rw [List.getElem?_set_ne this]
    rcases putL_mem (Bs := Bs.set i b') (Bc := bs) (Bc' := bs') h2 hk hn.2 with q | ⟨q1, q2⟩
    · exact Or.inl (List.mem_cons_of_mem _ q)
    · by_cases hik : i = k
      · subst hik
        rw [List.getElem?_set_self hi] at q1
        cases q1
        exact Or.inl List.mem_cons_self
      · rw [List.getElem?_set_ne hik] at q1
        refine Or.inr ⟨q1, ?_⟩
        rcases q2 with q2 | q2
        · exact Or.inl (fun hm => by rcases List.mem_cons.mp hm with e | e; exact hik e.symm; exact q2 e)
        · exact Or.inr (by simpa using q2)
theorem fl_apart {A : Nat → Prop} {Bs : List va_W} (hD : va_D A Bs.flatten) {i j : Nat} {b1 b2 : va_W} (h1 : Bs[i]? = some b1) (h2 : Bs[j]? = some b2) (hij : i ≠ j) {x y : Nat × va_E} (hx : x ∈ b1) (hy : y ∈ b2) : x.1 ≠ y.1 := by
  have hn := (va_D_iff.mp hD).1
  rw [adr_flat, List.Nodup, List.pairwise_flatten] at hn
  have hp := List.pairwise_iff_getElem.mp hn.2
  obtain ⟨hi, e1⟩ := List.getElem?_eq_some_iff.mp h1
  obtain ⟨hj, e2⟩ := List.getElem?_eq_some_iff.mp h2
  have m1 : x.1 ∈ b1.map Prod.fst := List.mem_map_of_mem hx
  have m2 : y.1 ∈ b2.map Prod.fst := List.mem_map_of_mem hy
  rcases Nat.lt_or_gt_of_ne hij with q | q
  · exact hp i j (by simpa [adr] using hi) (by simpa [adr] using hj) q x.1 (by simpa [adr, e1] using m1) y.1 (by simpa [adr, e2] using m2)
  · exact fun e => hp j i (by simpa [adr] using hj) (by simpa [adr] using hi) q y.1 (by simpa [adr, e2] using m2) x.1 (by simpa [adr, e1] using m1) e.symm
theorem sel_mem {Bs Bc : List va_W} {sel : List Nat} (h : sel.map (fun i => Bs[i]?) = Bc.map some) {b : va_W} (hb : b ∈ Bc) : ∃ i ∈ sel, Bs[i]? = some b := by
  have : some b ∈ Bc.map some := List.mem_map_of_mem hb
  rw [← h] at this
  obtain ⟨i, hi, e⟩ := List.mem_map.mp this
  exact ⟨i, hi, e⟩
theorem va_D_adr {A : Nat → Prop} {Bs Bs' : List va_W} (h : va_D A Bs.flatten) (e : adr Bs' = adr Bs) : va_D A Bs'.flatten := by
  rw [va_D_iff, adr_flat, e, ← adr_flat]
  exact va_D_iff.mp h
theorem adr_set {Bs : List va_W} {i j : Nat} {b : va_W} {a : Nat} {e0 e : va_E} (h1 : Bs[i]? = some b) (h2 : b[j]? = some (a, e0)) : adr (Bs.set i (b.set j (a, e))) = adr Bs := by
  have hi : i < Bs.length := (List.getElem?_eq_some_iff.mp h1).1
  have hj : j < b.length := (List.getElem?_eq_some_iff.mp h2).1
  unfold adr
  rw [List.map_set, List.map_set]
  have e1 : (b.map Prod.fst).set j a = b.map Prod.fst := by
    apply List.ext_getElem?
    intro k
    by_cases hk : j = k
    · subst hk
      rw [List.getElem?_set_self (by simpa using hj)]
      simp [h2]
    · rw [List.getElem?_set_ne hk]
  rw [e1]
  apply List.ext_getElem?
  intro k
  by_cases hk : i = k
  · subst hk
    rw [List.getElem?_set_self (by simpa using hi)]
    simp [h1]
  · rw [List.getElem?_set_ne hk]
theorem fl_call {D : va_G} {A : Nat → Prop} {Bs Bc Bc' Bs' : List va_W} {sel : List Nat} {H H1 : Heap} (hP : va_P D vwCl Bs.flatten H) (hD : va_D A Bs.flatten) (hsel : sel.map (fun i => Bs[i]?) = Bc.map some) (hnd : va_nd sel = true) (hB : putL Bs sel Bc' = Bs') (had : adr Bc' = adr Bc)
    (hk : ∀ q : Nat, q < H.size → ¬ bA Bc q → H1[q]? = H[q]?) (hP1 : va_P D vwCl Bc'.flatten H1) : va_P D vwCl Bs'.flatten H1 ∧ va_D A Bs'.flatten := by
  refine ⟨?_, va_D_adr hD (by rw [← hB]; exact putL_adr hsel had hnd)⟩
  subst hB
  rw [va_P_mem] at hP hP1 ⊢
  intro x hx
  obtain ⟨b, hb, hxb⟩ := List.mem_flatten.mp hx
  obtain ⟨k, hkb⟩ := List.getElem?_of_mem hb
  rcases putL_mem hsel hkb hnd with q | ⟨q1, q2⟩
  · exact hP1 x (List.mem_flatten.mpr ⟨b, q, hxb⟩)
  · have hl : Bc'.length = sel.length := by
      have e1 : Bc'.length = Bc.length := by have := congrArg List.length had; simpa [adr] using this
      have e2 : sel.length = Bc.length := by have := congrArg List.length hsel; simpa using this
      omega
    have hks : k ∉ sel := by rcases q2 with q2 | q2; exact q2; omega
    have hat := hP x (List.mem_flatten.mpr ⟨b, List.mem_of_getElem? q1, hxb⟩)
    refine hat.kept (hk x.1 hat.lt ?_)
    rintro ⟨y, hy, e⟩
    obtain ⟨b2, hb2, hyb⟩ := List.mem_flatten.mp hy
    obtain ⟨i, hi, hib⟩ := sel_mem hsel hb2
    exact fl_apart hD hib q1 (fun z => hks (z ▸ hi)) hyb hxb e
theorem fl_sub {D : va_G} {A : Nat → Prop} {Bs Bc : List va_W} {sel : List Nat} {H : Heap} (hP : va_P D vwCl Bs.flatten H) (hD : va_D A Bs.flatten) (hsel : sel.map (fun i => Bs[i]?) = Bc.map some) (hnd : va_nd sel = true) : va_P D vwCl Bc.flatten H ∧ va_D A Bc.flatten ∧ ∀ q, bA Bc q → A q := by
  have hm : ∀ x ∈ Bc.flatten, x ∈ Bs.flatten := by
    intro x hx
    obtain ⟨b, hb, hxb⟩ := List.mem_flatten.mp hx
    obtain ⟨i, -, hi⟩ := sel_mem hsel hb
    exact List.mem_flatten.mpr ⟨b, List.mem_of_getElem? hi, hxb⟩
  have hA : ∀ q, bA Bc q → A q := by
    rintro q ⟨x, hx, rfl⟩
    exact (va_D_iff.mp hD).2 _ (List.mem_map_of_mem (hm x hx))
  refine ⟨va_P_mem.mpr (fun x hx => va_P_mem.mp hP x (hm x hx)), va_D_iff.mpr ⟨?_, ?_⟩, hA⟩
  · have hn := (va_D_iff.mp hD).1
    rw [adr_flat, List.Nodup, List.pairwise_flatten] at hn ⊢
    refine ⟨?_, ?_⟩
    · intro l hl
      obtain ⟨b, hb, rfl⟩ := List.mem_map.mp hl
      obtain ⟨i, -, hi⟩ := sel_mem hsel hb
      exact hn.1 _ (List.mem_map_of_mem (List.mem_of_getElem? hi))
    · have hl : sel.length = Bc.length := by have := congrArg List.length hsel; simpa using this
      rw [List.pairwise_iff_getElem]
      intro i j hi hj hij x hx y hy
      have hi' : i < Bc.length := by simpa [adr] using hi
      have hj' : j < Bc.length := by simpa [adr] using hj
      have at' : ∀ k (hk : k < Bc.length), Bs[sel[k]'(by omega)]? = some Bc[k] := by
        intro k hk
        have := congrArg (fun l => l[k]?) hsel
        simpa [hk, hl] using this
      have hne : sel[i]'(by omega) ≠ sel[j]'(by omega) := by
        intro e
        have := va_nd_inj sel hnd i j (sel[i]'(by omega)) (List.getElem?_eq_getElem (by omega)) (by rw [e]; exact List.getElem?_eq_getElem (by omega))
        omega
      have hx' : x ∈ (Bc[i]).map Prod.fst := by simpa [adr] using hx
      have hy' : y ∈ (Bc[j]).map Prod.fst := by simpa [adr] using hy
      obtain ⟨u, hu, rfl⟩ := List.mem_map.mp hx'
      obtain ⟨v, hv, rfl⟩ := List.mem_map.mp hy'
      exact fl_apart hD (at' i hi') (at' j hj') hne hu hv
  · intro a ha
    obtain ⟨x, hx, rfl⟩ := List.mem_map.mp ha
    exact hA _ ⟨x, hx, rfl⟩
def Cx (p : Program) (s : State) (m : MethodId) (args : Array Value) (meth : Method) (c : Code) (cc : ByteArray) (nL : Nat) (own : String) (Ts : List Cond) (D : va_G) (tys : List (ClassId × FieldType)) : Prop :=
  p.tables.exec = Jvm.exec ∧ c.code = cc ∧ c.maxLocals = nL ∧ s.vm.findClass own = some m.cls ∧ (∀ w ∈ Ts, w.before args s = true) ∧ va_K D vwCl tys s ∧ meth.locks = false
def J (p : Program) (l : Launch) (e : Env) (R : Room) (s : State) (m : MethodId) (args : Array Value) (below : List Frame) (meth : Method) (c : Code) (nL : Nat) (D : va_G) (A : Nat → Prop) (cells slots : Nat) (Q : State → Prop) (Bs : List va_W) (pc : Nat) (lv : List (Nat × Value)) (st : List Value) : Prop :=
  ∀ (H : Heap) (locs : List Loc) (ls : Array Slot), va_P D vwCl Bs.flatten H → va_D A Bs.flatten → va_S A s.heap H locs → lv_has ls nL lv → W p l e R s m args below meth c H locs cells slots Q (F0 m pc ls st)
section JR
variable {p : Program} {l : Launch} {e : Env} {R : Room} {s : State} {m : MethodId} {args : Array Value} {below : List Frame} {meth : Method} {c : Code} {cc : ByteArray} {nL : Nat} {own : String} {Ts : List Cond} {D : va_G} {tys : List (ClassId × FieldType)} {A : Nat → Prop} {cells slots : Nat} {Q : State → Prop} {Bs : List va_W} {lv : List (Nat × Value)} {st : List Value} {pc : Nat}
theorem nI_eq0 {x : Nat} (hx : x < 2 ^ 31) : nI x = 0 ↔ x = 0 := by rw [← nI_0]; exact nI_eq hx (by decide)
theorem nI_le0 {x : Nat} (hx : x < 2 ^ 31) : nI x ≤ 0 ↔ x = 0 := by rw [← nI_0, nI_leI hx (by decide)]; omega
theorem nI_lt0 {x : Nat} (hx : x < 2 ^ 31) : 0 < nI x ↔ 0 < x := by rw [← nI_0, nI_ltI (by decide) hx]
theorem j_top {x y : Int32} (h : x = y) (kk : J p l e R s m args below meth c nL D A cells slots Q Bs pc lv (.int y :: st)) : J p l e R s m args below meth c nL D A cells slots Q Bs pc lv (.int x :: st) := h ▸ kk
theorem j_st {st' : List Value} (h : st = st') (kk : J p l e R s m args below meth c nL D A cells slots Q Bs pc lv st') : J p l e R s m args below meth c nL D A cells slots Q Bs pc lv st := h ▸ kk
theorem j_pc {pc' : Nat} (h : pc = pc') (kk : J p l e R s m args below meth c nL D A cells slots Q Bs pc' lv st) : J p l e R s m args below meth c nL D A cells slots Q Bs pc lv st := h ▸ kk
theorem j_bs {Bs' : List va_W} (h : Bs = Bs') (kk : J p l e R s m args below meth c nL D A cells slots Q Bs' pc lv st) : J p l e R s m args below meth c nL D A cells slots Q Bs pc lv st := h ▸ kk
theorem j_nm {x : Int32} (kk : ∀ y : Int32, y = x → J p l e R s m args below meth c nL D A cells slots Q Bs pc lv (.int y :: st)) : J p l e R s m args below meth c nL D A cells slots Q Bs pc lv (.int x :: st) := kk x rfl
theorem j_lv {lv' : List (Nat × Value)} (ks : List Nat) (h : lv_pick lv ks = lv') (kk : J p l e R s m args below meth c nL D A cells slots Q Bs pc lv' st) : J p l e R s m args below meth c nL D A cells slots Q Bs pc lv st := fun H locs ls hP hD hS hl => kk H locs ls hP hD hS (lv_sub hl ks h)
theorem j_lvm {lv' : List (Nat × Value)} (h : ∀ q ∈ lv', q ∈ lv) (kk : J p l e R s m args below meth c nL D A cells slots Q Bs pc lv' st) : J p l e R s m args below meth c nL D A cells slots Q Bs pc lv st := fun H locs ls hP hD hS hl => kk H locs ls hP hD hS ⟨hl.1, hl.2.1, fun q hq => hl.2.2 q (h q hq)⟩
theorem j_aload_n (cx : Cx p s m args meth c cc nL own Ts D tys) {k : Fin 4} {a : Nat} (dg : decode cc pc = .ok (.aload_n k, 1)) (q : Nat) (hq : lv[q]? = some ((k : Nat), .ref a)) (kk : J p l e R s m args below meth c nL D A cells slots Q Bs (pc + 1) lv (.ref a :: st)) : J p l e R s m args below meth c nL D A cells slots Q Bs pc lv st :=
  fun H locs ls hP hD hS hl => lv_aload_n cx.1 cx.2.1 dg rfl (lv_at hl q hq) (kk H locs ls hP hD hS hl)
theorem j_iload_n (cx : Cx p s m args meth c cc nL own Ts D tys) {k : Fin 4} {x : Int32} (dg : decode cc pc = .ok (.iload_n k, 1)) (q : Nat) (hq : lv[q]? = some ((k : Nat), .int x)) (kk : J p l e R s m args below meth c nL D A cells slots Q Bs (pc + 1) lv (.int x :: st)) : J p l e R s m args below meth c nL D A cells slots Q Bs pc lv st :=
  fun H locs ls hP hD hS hl => lv_iload_n cx.1 cx.2.1 dg rfl (lv_at hl q hq) (kk H locs ls hP hD hS hl)
theorem j_iload (cx : Cx p s m args meth c cc nL own Ts D tys) {i : Nat} {x : Int32} (dg : decode cc pc = .ok (.iload i, 2)) (q : Nat) (hq : lv[q]? = some (i, .int x)) (kk : J p l e R s m args below meth c nL D A cells slots Q Bs (pc + 2) lv (.int x :: st)) : J p l e R s m args below meth c nL D A cells slots Q Bs pc lv st :=
  fun H locs ls hP hD hS hl => lv_iload cx.1 cx.2.1 dg (lv_at hl q hq) (kk H locs ls hP hD hS hl)
theorem j_istore_n (cx : Cx p s m args meth c cc nL own Ts D tys) {k : Fin 4} {x : Int32} {lv' : List (Nat × Value)} (dg : decode cc pc = .ok (.istore_n k, 1)) (hn : (k : Nat) < nL) (hl' : ((k : Nat), Value.int x) :: lv.filter (fun q => !(q.1 == (k : Nat)) && !(q.1 + 1 == (k : Nat) && q.2.category == 2)) = lv') (kk : J p l e R s m args below meth c nL D A cells slots Q Bs (pc + 1) lv' st) : J p l e R s m args below meth c nL D A cells slots Q Bs pc lv (.int x :: st) :=
  fun H locs ls hP hD hS hl => lv_istore_n cx.1 cx.2.1 dg rfl hl hn hl' (fun ls' hl2 => kk H locs ls' hP hD hS hl2)
theorem j_istore (cx : Cx p s m args meth c cc nL own Ts D tys) {i : Nat} {x : Int32} {lv' : List (Nat × Value)} (dg : decode cc pc = .ok (.istore i, 2)) (hn : i < nL) (hl' : (i, Value.int x) :: lv.filter (fun q => !(q.1 == i) && !(q.1 + 1 == i && q.2.category == 2)) = lv') (kk : J p l e R s m args below meth c nL D A cells slots Q Bs (pc + 2) lv' st) : J p l e R s m args below meth c nL D A cells slots Q Bs pc lv (.int x :: st) :=
  fun H locs ls hP hD hS hl => lv_istore cx.1 cx.2.1 dg hl hn hl' (fun ls' hl2 => kk H locs ls' hP hD hS hl2)
theorem j_astore_n (cx : Cx p s m args meth c cc nL own Ts D tys) {k : Fin 4} {x : Nat} {lv' : List (Nat × Value)} (dg : decode cc pc = .ok (.astore_n k, 1)) (hn : (k : Nat) < nL) (hl' : ((k : Nat), Value.ref x) :: lv.filter (fun q => !(q.1 == (k : Nat)) && !(q.1 + 1 == (k : Nat) && q.2.category == 2)) = lv') (kk : J p l e R s m args below meth c nL D A cells slots Q Bs (pc + 1) lv' st) : J p l e R s m args below meth c nL D A cells slots Q Bs pc lv (.ref x :: st) :=
  fun H locs ls hP hD hS hl => lv_astore_n cx.1 cx.2.1 dg rfl hl hn hl' (fun ls' hl2 => kk H locs ls' hP hD hS hl2)
theorem j_iinc (cx : Cx p s m args meth c cc nL own Ts D tys) {i : Nat} {n : Int} {x v : Int32} {lv' : List (Nat × Value)} (dg : decode cc pc = .ok (.iinc i n, 3)) (q : Nat) (hq : lv[q]? = some (i, .int x)) (hv : x + Int32.ofInt n = v) (hn : i < nL) (hl' : (i, Value.int v) :: lv.filter (fun q => !(q.1 == i) && !(q.1 + 1 == i && q.2.category == 2)) = lv') (kk : J p l e R s m args below meth c nL D A cells slots Q Bs (pc + 3) lv' st) : J p l e R s m args below meth c nL D A cells slots Q Bs pc lv st :=
  fun H locs ls hP hD hS hl => lv_iinc cx.1 cx.2.1 dg hl hq hv hn hl' (fun ls' hl2 => kk H locs ls' hP hD hS hl2)
theorem j_iconst (cx : Cx p s m args meth c cc nL own Ts D tys) {n : Int} {v : Int32} (dg : decode cc pc = .ok (.iconst n, 1)) (hv : Int32.ofInt n = v) (kk : J p l e R s m args below meth c nL D A cells slots Q Bs (pc + 1) lv (.int v :: st)) : J p l e R s m args below meth c nL D A cells slots Q Bs pc lv st :=
  fun H locs ls hP hD hS hl => lv_iconst cx.1 cx.2.1 dg hv (kk H locs ls hP hD hS hl)
theorem j_bipush (cx : Cx p s m args meth c cc nL own Ts D tys) {n : Int} {v : Int32} (dg : decode cc pc = .ok (.bipush n, 2)) (hv : (Int8.ofInt n).toInt32 = v) (kk : J p l e R s m args below meth c nL D A cells slots Q Bs (pc + 2) lv (.int v :: st)) : J p l e R s m args below meth c nL D A cells slots Q Bs pc lv st :=
  fun H locs ls hP hD hS hl => lv_bipush cx.1 cx.2.1 dg hv (kk H locs ls hP hD hS hl)
theorem j_sipush (cx : Cx p s m args meth c cc nL own Ts D tys) {n : Int} {v : Int32} (dg : decode cc pc = .ok (.sipush n, 3)) (hv : (Int16.ofInt n).toInt32 = v) (kk : J p l e R s m args below meth c nL D A cells slots Q Bs (pc + 3) lv (.int v :: st)) : J p l e R s m args below meth c nL D A cells slots Q Bs pc lv st :=
  fun H locs ls hP hD hS hl => lv_sipush cx.1 cx.2.1 dg hv (kk H locs ls hP hD hS hl)
theorem j_ldc (cx : Cx p s m args meth c cc nL own Ts D tys) {index : Nat} {v : Int32} (hw : Jvm.Cond.constant own index v ∈ Ts) (dg : decode cc pc = .ok (.ldc index, 2)) (kk : J p l e R s m args below meth c nL D A cells slots Q Bs (pc + 2) lv (.int v :: st)) : J p l e R s m args below meth c nL D A cells slots Q Bs pc lv st :=
  fun H locs ls hP hD hS hl => lv_ldc cx.1 cx.2.1 cx.2.2.2.1 (cx.2.2.2.2.1 _ hw) dg (kk H locs ls hP hD hS hl)
theorem j_iadd (cx : Cx p s m args meth c cc nL own Ts D tys) {x y : Int32} (dg : decode cc pc = .ok (.iadd, 1)) (kk : J p l e R s m args below meth c nL D A cells slots Q Bs (pc + 1) lv (.int (x + y) :: st)) : J p l e R s m args below meth c nL D A cells slots Q Bs pc lv (.int y :: .int x :: st) :=
  fun H locs ls hP hD hS hl => lv_iadd cx.1 cx.2.1 dg (kk H locs ls hP hD hS hl)
theorem j_isub (cx : Cx p s m args meth c cc nL own Ts D tys) {x y : Int32} (dg : decode cc pc = .ok (.isub, 1)) (kk : J p l e R s m args below meth c nL D A cells slots Q Bs (pc + 1) lv (.int (x - y) :: st)) : J p l e R s m args below meth c nL D A cells slots Q Bs pc lv (.int y :: .int x :: st) :=
  fun H locs ls hP hD hS hl => lv_isub cx.1 cx.2.1 dg (kk H locs ls hP hD hS hl)
theorem j_imul (cx : Cx p s m args meth c cc nL own Ts D tys) {x y : Int32} (dg : decode cc pc = .ok (.imul, 1)) (kk : J p l e R s m args below meth c nL D A cells slots Q Bs (pc + 1) lv (.int (x * y) :: st)) : J p l e R s m args below meth c nL D A cells slots Q Bs pc lv (.int y :: .int x :: st) :=
  fun H locs ls hP hD hS hl => lv_imul cx.1 cx.2.1 dg (kk H locs ls hP hD hS hl)
theorem j_iand (cx : Cx p s m args meth c cc nL own Ts D tys) {x y : Int32} (dg : decode cc pc = .ok (.iand, 1)) (kk : J p l e R s m args below meth c nL D A cells slots Q Bs (pc + 1) lv (.int (x &&& y) :: st)) : J p l e R s m args below meth c nL D A cells slots Q Bs pc lv (.int y :: .int x :: st) :=
  fun H locs ls hP hD hS hl => lv_iand cx.1 cx.2.1 dg (kk H locs ls hP hD hS hl)
theorem j_idiv (cx : Cx p s m args meth c cc nL own Ts D tys) {x y : Int32} (hy : ¬ y = 0) (dg : decode cc pc = .ok (.idiv, 1)) (kk : J p l e R s m args below meth c nL D A cells slots Q Bs (pc + 1) lv (.int (x / y) :: st)) : J p l e R s m args below meth c nL D A cells slots Q Bs pc lv (.int y :: .int x :: st) :=
  fun H locs ls hP hD hS hl => lv_idiv cx.1 cx.2.1 dg hy (kk H locs ls hP hD hS hl)
theorem j_irem (cx : Cx p s m args meth c cc nL own Ts D tys) {x y : Int32} (hy : ¬ y = 0) (dg : decode cc pc = .ok (.irem, 1)) (kk : J p l e R s m args below meth c nL D A cells slots Q Bs (pc + 1) lv (.int (x - x / y * y) :: st)) : J p l e R s m args below meth c nL D A cells slots Q Bs pc lv (.int y :: .int x :: st) :=
  fun H locs ls hP hD hS hl => lv_irem cx.1 cx.2.1 dg hy (kk H locs ls hP hD hS hl)
theorem j_i2c (cx : Cx p s m args meth c cc nL own Ts D tys) {x v : Int32} (dg : decode cc pc = .ok (.i2c, 1)) (hv : (x.toUInt32 % 65536).toInt32 = v) (kk : J p l e R s m args below meth c nL D A cells slots Q Bs (pc + 1) lv (.int v :: st)) : J p l e R s m args below meth c nL D A cells slots Q Bs pc lv (.int x :: st) :=
  fun H locs ls hP hD hS hl => lv_i2c cx.1 cx.2.1 dg hv (kk H locs ls hP hD hS hl)
theorem j_dup (cx : Cx p s m args meth c cc nL own Ts D tys) {v : Value} (dg : decode cc pc = .ok (.dup, 1)) (hv : v.category = 1) (kk : J p l e R s m args below meth c nL D A cells slots Q Bs (pc + 1) lv (v :: v :: st)) : J p l e R s m args below meth c nL D A cells slots Q Bs pc lv (v :: st) :=
  fun H locs ls hP hD hS hl => lv_dup cx.1 cx.2.1 dg hv (kk H locs ls hP hD hS hl)
theorem j_dup2 (cx : Cx p s m args meth c cc nL own Ts D tys) {va vb : Value} (dg : decode cc pc = .ok (.dup2, 1)) (hva : va.category = 1) (hvb : vb.category = 1) (kk : J p l e R s m args below meth c nL D A cells slots Q Bs (pc + 1) lv (va :: vb :: va :: vb :: st)) : J p l e R s m args below meth c nL D A cells slots Q Bs pc lv (va :: vb :: st) :=
  fun H locs ls hP hD hS hl => lv_dup2_11 cx.1 cx.2.1 dg hva hvb (kk H locs ls hP hD hS hl)
theorem j_goto (cx : Cx p s m args meth c cc nL own Ts D tys) {off : Int} {tgt : Nat} (dg : decode cc pc = .ok (.goto off, 3)) (ht : (pc : Int) + off = (tgt : Int)) (kk : J p l e R s m args below meth c nL D A cells slots Q Bs tgt lv st) : J p l e R s m args below meth c nL D A cells slots Q Bs pc lv st :=
  fun H locs ls hP hD hS hl => lv_goto cx.1 cx.2.1 dg ht (kk H locs ls hP hD hS hl)
theorem j_if_eq (cx : Cx p s m args meth c cc nL own Ts D tys) {x : Int32} {off : Int} {tgt : Nat} (dg : decode cc pc = .ok (.ifCond .eq off, 3)) (ht : (pc : Int) + off = (tgt : Int)) (kt : x = 0 → J p l e R s m args below meth c nL D A cells slots Q Bs tgt lv st) (kf : ¬ x = 0 → J p l e R s m args below meth c nL D A cells slots Q Bs (pc + 3) lv st) : J p l e R s m args below meth c nL D A cells slots Q Bs pc lv (.int x :: st) :=
  fun H locs ls hP hD hS hl => lv_if_eq cx.1 cx.2.1 dg ht (fun h => kt h H locs ls hP hD hS hl) (fun h => kf h H locs ls hP hD hS hl)
theorem j_if_ne (cx : Cx p s m args meth c cc nL own Ts D tys) {x : Int32} {off : Int} {tgt : Nat} (dg : decode cc pc = .ok (.ifCond .ne off, 3)) (ht : (pc : Int) + off = (tgt : Int)) (kt : ¬ x = 0 → J p l e R s m args below meth c nL D A cells slots Q Bs tgt lv st) (kf : x = 0 → J p l e R s m args below meth c nL D A cells slots Q Bs (pc + 3) lv st) : J p l e R s m args below meth c nL D A cells slots Q Bs pc lv (.int x :: st) :=
  fun H locs ls hP hD hS hl => lv_if_ne cx.1 cx.2.1 dg ht (fun h => kt h H locs ls hP hD hS hl) (fun h => kf h H locs ls hP hD hS hl)
theorem j_if_lt (cx : Cx p s m args meth c cc nL own Ts D tys) {x : Int32} {off : Int} {tgt : Nat} (dg : decode cc pc = .ok (.ifCond .lt off, 3)) (ht : (pc : Int) + off = (tgt : Int)) (kt : x < 0 → J p l e R s m args below meth c nL D A cells slots Q Bs tgt lv st) (kf : ¬ x < 0 → J p l e R s m args below meth c nL D A cells slots Q Bs (pc + 3) lv st) : J p l e R s m args below meth c nL D A cells slots Q Bs pc lv (.int x :: st) :=
  fun H locs ls hP hD hS hl => lv_if_lt cx.1 cx.2.1 dg ht (fun h => kt h H locs ls hP hD hS hl) (fun h => kf h H locs ls hP hD hS hl)
theorem j_if_ge (cx : Cx p s m args meth c cc nL own Ts D tys) {x : Int32} {off : Int} {tgt : Nat} (dg : decode cc pc = .ok (.ifCond .ge off, 3)) (ht : (pc : Int) + off = (tgt : Int)) (kt : 0 ≤ x → J p l e R s m args below meth c nL D A cells slots Q Bs tgt lv st) (kf : ¬ 0 ≤ x → J p l e R s m args below meth c nL D A cells slots Q Bs (pc + 3) lv st) : J p l e R s m args below meth c nL D A cells slots Q Bs pc lv (.int x :: st) :=
  fun H locs ls hP hD hS hl => lv_if_ge cx.1 cx.2.1 dg ht (fun h => kt h H locs ls hP hD hS hl) (fun h => kf h H locs ls hP hD hS hl)
theorem j_if_gt (cx : Cx p s m args meth c cc nL own Ts D tys) {x : Int32} {off : Int} {tgt : Nat} (dg : decode cc pc = .ok (.ifCond .gt off, 3)) (ht : (pc : Int) + off = (tgt : Int)) (kt : 0 < x → J p l e R s m args below meth c nL D A cells slots Q Bs tgt lv st) (kf : ¬ 0 < x → J p l e R s m args below meth c nL D A cells slots Q Bs (pc + 3) lv st) : J p l e R s m args below meth c nL D A cells slots Q Bs pc lv (.int x :: st) :=
  fun H locs ls hP hD hS hl => lv_if_gt cx.1 cx.2.1 dg ht (fun h => kt h H locs ls hP hD hS hl) (fun h => kf h H locs ls hP hD hS hl)
theorem j_if_le (cx : Cx p s m args meth c cc nL own Ts D tys) {x : Int32} {off : Int} {tgt : Nat} (dg : decode cc pc = .ok (.ifCond .le off, 3)) (ht : (pc : Int) + off = (tgt : Int)) (kt : x ≤ 0 → J p l e R s m args below meth c nL D A cells slots Q Bs tgt lv st) (kf : ¬ x ≤ 0 → J p l e R s m args below meth c nL D A cells slots Q Bs (pc + 3) lv st) : J p l e R s m args below meth c nL D A cells slots Q Bs pc lv (.int x :: st) :=
  fun H locs ls hP hD hS hl => lv_if_le cx.1 cx.2.1 dg ht (fun h => kt h H locs ls hP hD hS hl) (fun h => kf h H locs ls hP hD hS hl)
theorem j_icmp_eq (cx : Cx p s m args meth c cc nL own Ts D tys) {x y : Int32} {off : Int} {tgt : Nat} (dg : decode cc pc = .ok (.if_icmp .eq off, 3)) (ht : (pc : Int) + off = (tgt : Int)) (kt : x = y → J p l e R s m args below meth c nL D A cells slots Q Bs tgt lv st) (kf : ¬ x = y → J p l e R s m args below meth c nL D A cells slots Q Bs (pc + 3) lv st) : J p l e R s m args below meth c nL D A cells slots Q Bs pc lv (.int y :: .int x :: st) :=
  fun H locs ls hP hD hS hl => lv_icmp_eq cx.1 cx.2.1 dg ht (fun h => kt h H locs ls hP hD hS hl) (fun h => kf h H locs ls hP hD hS hl)
theorem j_icmp_ne (cx : Cx p s m args meth c cc nL own Ts D tys) {x y : Int32} {off : Int} {tgt : Nat} (dg : decode cc pc = .ok (.if_icmp .ne off, 3)) (ht : (pc : Int) + off = (tgt : Int)) (kt : ¬ x = y → J p l e R s m args below meth c nL D A cells slots Q Bs tgt lv st) (kf : x = y → J p l e R s m args below meth c nL D A cells slots Q Bs (pc + 3) lv st) : J p l e R s m args below meth c nL D A cells slots Q Bs pc lv (.int y :: .int x :: st) :=
  fun H locs ls hP hD hS hl => lv_icmp_ne cx.1 cx.2.1 dg ht (fun h => kt h H locs ls hP hD hS hl) (fun h => kf h H locs ls hP hD hS hl)
theorem j_icmp_lt (cx : Cx p s m args meth c cc nL own Ts D tys) {x y : Int32} {off : Int} {tgt : Nat} (dg : decode cc pc = .ok (.if_icmp .lt off, 3)) (ht : (pc : Int) + off = (tgt : Int)) (kt : x < y → J p l e R s m args below meth c nL D A cells slots Q Bs tgt lv st) (kf : ¬ x < y → J p l e R s m args below meth c nL D A cells slots Q Bs (pc + 3) lv st) : J p l e R s m args below meth c nL D A cells slots Q Bs pc lv (.int y :: .int x :: st) :=
  fun H locs ls hP hD hS hl => lv_icmp_lt cx.1 cx.2.1 dg ht (fun h => kt h H locs ls hP hD hS hl) (fun h => kf h H locs ls hP hD hS hl)
theorem j_icmp_ge (cx : Cx p s m args meth c cc nL own Ts D tys) {x y : Int32} {off : Int} {tgt : Nat} (dg : decode cc pc = .ok (.if_icmp .ge off, 3)) (ht : (pc : Int) + off = (tgt : Int)) (kt : y ≤ x → J p l e R s m args below meth c nL D A cells slots Q Bs tgt lv st) (kf : ¬ y ≤ x → J p l e R s m args below meth c nL D A cells slots Q Bs (pc + 3) lv st) : J p l e R s m args below meth c nL D A cells slots Q Bs pc lv (.int y :: .int x :: st) :=
  fun H locs ls hP hD hS hl => lv_icmp_ge cx.1 cx.2.1 dg ht (fun h => kt h H locs ls hP hD hS hl) (fun h => kf h H locs ls hP hD hS hl)
theorem j_icmp_gt (cx : Cx p s m args meth c cc nL own Ts D tys) {x y : Int32} {off : Int} {tgt : Nat} (dg : decode cc pc = .ok (.if_icmp .gt off, 3)) (ht : (pc : Int) + off = (tgt : Int)) (kt : y < x → J p l e R s m args below meth c nL D A cells slots Q Bs tgt lv st) (kf : ¬ y < x → J p l e R s m args below meth c nL D A cells slots Q Bs (pc + 3) lv st) : J p l e R s m args below meth c nL D A cells slots Q Bs pc lv (.int y :: .int x :: st) :=
  fun H locs ls hP hD hS hl => lv_icmp_gt cx.1 cx.2.1 dg ht (fun h => kt h H locs ls hP hD hS hl) (fun h => kf h H locs ls hP hD hS hl)
theorem j_icmp_le (cx : Cx p s m args meth c cc nL own Ts D tys) {x y : Int32} {off : Int} {tgt : Nat} (dg : decode cc pc = .ok (.if_icmp .le off, 3)) (ht : (pc : Int) + off = (tgt : Int)) (kt : x ≤ y → J p l e R s m args below meth c nL D A cells slots Q Bs tgt lv st) (kf : ¬ x ≤ y → J p l e R s m args below meth c nL D A cells slots Q Bs (pc + 3) lv st) : J p l e R s m args below meth c nL D A cells slots Q Bs pc lv (.int y :: .int x :: st) :=
  fun H locs ls hP hD hS hl => lv_icmp_le cx.1 cx.2.1 dg ht (fun h => kt h H locs ls hP hD hS hl) (fun h => kf h H locs ls hP hD hS hl)
theorem j_iaddN (cx : Cx p s m args meth c cc nL own Ts D tys) {x y : Nat} (dg : decode cc pc = .ok (.iadd, 1)) (kk : J p l e R s m args below meth c nL D A cells slots Q Bs (pc + 1) lv (.int (nI (x + y)) :: st)) : J p l e R s m args below meth c nL D A cells slots Q Bs pc lv (.int (nI y) :: .int (nI x) :: st) := j_iadd cx dg (by rw [nI_add]; exact kk)
theorem j_imulN (cx : Cx p s m args meth c cc nL own Ts D tys) {x y : Nat} (dg : decode cc pc = .ok (.imul, 1)) (kk : J p l e R s m args below meth c nL D A cells slots Q Bs (pc + 1) lv (.int (nI (x * y)) :: st)) : J p l e R s m args below meth c nL D A cells slots Q Bs pc lv (.int (nI y) :: .int (nI x) :: st) := j_imul cx dg (by rw [pk_mul]; exact kk)
theorem j_isubN (cx : Cx p s m args meth c cc nL own Ts D tys) {x y : Nat} (h : y ≤ x) (dg : decode cc pc = .ok (.isub, 1)) (kk : J p l e R s m args below meth c nL D A cells slots Q Bs (pc + 1) lv (.int (nI (x - y)) :: st)) : J p l e R s m args below meth c nL D A cells slots Q Bs pc lv (.int (nI y) :: .int (nI x) :: st) := j_isub cx dg (by rw [pk_sub h]; exact kk)
theorem j_iremN (cx : Cx p s m args meth c cc nL own Ts D tys) {x y : Nat} (hx : x < 2 ^ 31) (h0 : 0 < y) (hy : y < 2 ^ 31) (dg : decode cc pc = .ok (.irem, 1)) (kk : J p l e R s m args below meth c nL D A cells slots Q Bs (pc + 1) lv (.int (nI (x % y)) :: st)) : J p l e R s m args below meth c nL D A cells slots Q Bs pc lv (.int (nI y) :: .int (nI x) :: st) := j_irem cx (nI_ne0 h0 hy) dg (by rw [pk_rem hx h0 hy]; exact kk)
theorem j_idivN (cx : Cx p s m args meth c cc nL own Ts D tys) {x y : Nat} (hx : x < 2 ^ 31) (h0 : 0 < y) (hy : y < 2 ^ 31) (dg : decode cc pc = .ok (.idiv, 1)) (kk : J p l e R s m args below meth c nL D A cells slots Q Bs (pc + 1) lv (.int (nI (x / y)) :: st)) : J p l e R s m args below meth c nL D A cells slots Q Bs pc lv (.int (nI y) :: .int (nI x) :: st) := j_idiv cx (nI_ne0 h0 hy) dg (by rw [pk_div hx h0 hy]; exact kk)
theorem j_ifN_eq (cx : Cx p s m args meth c cc nL own Ts D tys) {x : Nat} (hx : x < 2 ^ 31) {off : Int} {tgt : Nat} (dg : decode cc pc = .ok (.ifCond .eq off, 3)) (ht : (pc : Int) + off = (tgt : Int)) (kt : x = 0 → J p l e R s m args below meth c nL D A cells slots Q Bs tgt lv st) (kf : ¬ x = 0 → J p l e R s m args below meth c nL D A cells slots Q Bs (pc + 3) lv st) : J p l e R s m args below meth c nL D A cells slots Q Bs pc lv (.int (nI x) :: st) := j_if_eq cx dg ht (fun h => kt ((nI_eq0 hx).mp h)) (fun h => kf (fun q => h ((nI_eq0 hx).mpr q)))
theorem j_ifN_ne (cx : Cx p s m args meth c cc nL own Ts D tys) {x : Nat} (hx : x < 2 ^ 31) {off : Int} {tgt : Nat} (dg : decode cc pc = .ok (.ifCond .ne off, 3)) (ht : (pc : Int) + off = (tgt : Int)) (kt : ¬ x = 0 → J p l e R s m args below meth c nL D A cells slots Q Bs tgt lv st) (kf : x = 0 → J p l e R s m args below meth c nL D A cells slots Q Bs (pc + 3) lv st) : J p l e R s m args below meth c nL D A cells slots Q Bs pc lv (.int (nI x) :: st) := j_if_ne cx dg ht (fun h => kt (fun q => h ((nI_eq0 hx).mpr q))) (fun h => kf ((nI_eq0 hx).mp h))
theorem j_ifN_le (cx : Cx p s m args meth c cc nL own Ts D tys) {x : Nat} (hx : x < 2 ^ 31) {off : Int} {tgt : Nat} (dg : decode cc pc = .ok (.ifCond .le off, 3)) (ht : (pc : Int) + off = (tgt : Int)) (kt : x = 0 → J p l e R s m args below meth c nL D A cells slots Q Bs tgt lv st) (kf : 0 < x → J p l e R s m args below meth c nL D A cells slots Q Bs (pc + 3) lv st) : J p l e R s m args below meth c nL D A cells slots Q Bs pc lv (.int (nI x) :: st) := j_if_le cx dg ht (fun h => kt ((nI_le0 hx).mp h)) (fun h => kf (Nat.pos_of_ne_zero (fun q => h ((nI_le0 hx).mpr q))))
theorem j_ifN_gt (cx : Cx p s m args meth c cc nL own Ts D tys) {x : Nat} (hx : x < 2 ^ 31) {off : Int} {tgt : Nat} (dg : decode cc pc = .ok (.ifCond .gt off, 3)) (ht : (pc : Int) + off = (tgt : Int)) (kt : 0 < x → J p l e R s m args below meth c nL D A cells slots Q Bs tgt lv st) (kf : x = 0 → J p l e R s m args below meth c nL D A cells slots Q Bs (pc + 3) lv st) : J p l e R s m args below meth c nL D A cells slots Q Bs pc lv (.int (nI x) :: st) := j_if_gt cx dg ht (fun h => kt ((nI_lt0 hx).mp h)) (fun h => kf (by rcases Nat.eq_zero_or_pos x with q | q; exact q; exact absurd ((nI_lt0 hx).mpr q) h))
theorem j_ifN_lt (cx : Cx p s m args meth c cc nL own Ts D tys) {x : Nat} (hx : x < 2 ^ 31) {off : Int} {tgt : Nat} (dg : decode cc pc = .ok (.ifCond .lt off, 3)) (ht : (pc : Int) + off = (tgt : Int)) (kf : J p l e R s m args below meth c nL D A cells slots Q Bs (pc + 3) lv st) : J p l e R s m args below meth c nL D A cells slots Q Bs pc lv (.int (nI x) :: st) := j_if_lt cx dg ht (fun h => absurd h (nI_pos hx)) (fun _ => kf)
theorem j_ifN_ge (cx : Cx p s m args meth c cc nL own Ts D tys) {x : Nat} (hx : x < 2 ^ 31) {off : Int} {tgt : Nat} (dg : decode cc pc = .ok (.ifCond .ge off, 3)) (ht : (pc : Int) + off = (tgt : Int)) (kt : J p l e R s m args below meth c nL D A cells slots Q Bs tgt lv st) : J p l e R s m args below meth c nL D A cells slots Q Bs pc lv (.int (nI x) :: st) := j_if_ge cx dg ht (fun _ => kt) (fun h => absurd (nI_pos' hx) h)
theorem j_icmpN_eq (cx : Cx p s m args meth c cc nL own Ts D tys) {x y : Nat} (hx : x < 2 ^ 31) (hy : y < 2 ^ 31) {off : Int} {tgt : Nat} (dg : decode cc pc = .ok (.if_icmp .eq off, 3)) (ht : (pc : Int) + off = (tgt : Int)) (kt : x = y → J p l e R s m args below meth c nL D A cells slots Q Bs tgt lv st) (kf : ¬ x = y → J p l e R s m args below meth c nL D A cells slots Q Bs (pc + 3) lv st) : J p l e R s m args below meth c nL D A cells slots Q Bs pc lv (.int (nI y) :: .int (nI x) :: st) := j_icmp_eq cx dg ht (fun h => kt ((nI_eq hx hy).mp h)) (fun h => kf (fun q => h ((nI_eq hx hy).mpr q)))
theorem j_icmpN_ne (cx : Cx p s m args meth c cc nL own Ts D tys) {x y : Nat} (hx : x < 2 ^ 31) (hy : y < 2 ^ 31) {off : Int} {tgt : Nat} (dg : decode cc pc = .ok (.if_icmp .ne off, 3)) (ht : (pc : Int) + off = (tgt : Int)) (kt : ¬ x = y → J p l e R s m args below meth c nL D A cells slots Q Bs tgt lv st) (kf : x = y → J p l e R s m args below meth c nL D A cells slots Q Bs (pc + 3) lv st) : J p l e R s m args below meth c nL D A cells slots Q Bs pc lv (.int (nI y) :: .int (nI x) :: st) := j_icmp_ne cx dg ht (fun h => kt (fun q => h ((nI_eq hx hy).mpr q))) (fun h => kf ((nI_eq hx hy).mp h))
theorem j_icmpN_lt (cx : Cx p s m args meth c cc nL own Ts D tys) {x y : Nat} (hx : x < 2 ^ 31) (hy : y < 2 ^ 31) {off : Int} {tgt : Nat} (dg : decode cc pc = .ok (.if_icmp .lt off, 3)) (ht : (pc : Int) + off = (tgt : Int)) (kt : x < y → J p l e R s m args below meth c nL D A cells slots Q Bs tgt lv st) (kf : y ≤ x → J p l e R s m args below meth c nL D A cells slots Q Bs (pc + 3) lv st) : J p l e R s m args below meth c nL D A cells slots Q Bs pc lv (.int (nI y) :: .int (nI x) :: st) := j_icmp_lt cx dg ht (fun h => kt ((nI_ltI hx hy).mp h)) (fun h => kf (Nat.not_lt.mp (fun q => h ((nI_ltI hx hy).mpr q))))
theorem j_icmpN_ge (cx : Cx p s m args meth c cc nL own Ts D tys) {x y : Nat} (hx : x < 2 ^ 31) (hy : y < 2 ^ 31) {off : Int} {tgt : Nat} (dg : decode cc pc = .ok (.if_icmp .ge off, 3)) (ht : (pc : Int) + off = (tgt : Int)) (kt : y ≤ x → J p l e R s m args below meth c nL D A cells slots Q Bs tgt lv st) (kf : x < y → J p l e R s m args below meth c nL D A cells slots Q Bs (pc + 3) lv st) : J p l e R s m args below meth c nL D A cells slots Q Bs pc lv (.int (nI y) :: .int (nI x) :: st) := j_icmp_ge cx dg ht (fun h => kt ((nI_leI hy hx).mp h)) (fun h => kf (Nat.not_le.mp (fun q => h ((nI_leI hy hx).mpr q))))
theorem j_icmpN_gt (cx : Cx p s m args meth c cc nL own Ts D tys) {x y : Nat} (hx : x < 2 ^ 31) (hy : y < 2 ^ 31) {off : Int} {tgt : Nat} (dg : decode cc pc = .ok (.if_icmp .gt off, 3)) (ht : (pc : Int) + off = (tgt : Int)) (kt : y < x → J p l e R s m args below meth c nL D A cells slots Q Bs tgt lv st) (kf : x ≤ y → J p l e R s m args below meth c nL D A cells slots Q Bs (pc + 3) lv st) : J p l e R s m args below meth c nL D A cells slots Q Bs pc lv (.int (nI y) :: .int (nI x) :: st) := j_icmp_gt cx dg ht (fun h => kt ((nI_ltI hy hx).mp h)) (fun h => kf (Nat.not_lt.mp (fun q => h ((nI_ltI hy hx).mpr q))))
theorem j_icmpN_le (cx : Cx p s m args meth c cc nL own Ts D tys) {x y : Nat} (hx : x < 2 ^ 31) (hy : y < 2 ^ 31) {off : Int} {tgt : Nat} (dg : decode cc pc = .ok (.if_icmp .le off, 3)) (ht : (pc : Int) + off = (tgt : Int)) (kt : x ≤ y → J p l e R s m args below meth c nL D A cells slots Q Bs tgt lv st) (kf : y < x → J p l e R s m args below meth c nL D A cells slots Q Bs (pc + 3) lv st) : J p l e R s m args below meth c nL D A cells slots Q Bs pc lv (.int (nI y) :: .int (nI x) :: st) := j_icmp_le cx dg ht (fun h => kt ((nI_leI hx hy).mp h)) (fun h => kf (Nat.not_le.mp (fun q => h ((nI_leI hx hy).mpr q))))
theorem j_tableIn (cx : Cx p s m args meth c cc nL own Ts D tys) {dflt lo hi : Int} {offs : Array Int} {len : Nat} {x : Int32} {off : Int} {tgt : Nat} (dg : decode cc pc = .ok (.tableswitch dflt lo hi offs, len)) (h1 : ¬ x.toInt < lo) (h2 : ¬ hi < x.toInt) (ho : offs[(x.toInt - lo).toNat]? = some off) (ht : (pc : Int) + off = (tgt : Int)) (kk : J p l e R s m args below meth c nL D A cells slots Q Bs tgt lv st) : J p l e R s m args below meth c nL D A cells slots Q Bs pc lv (.int x :: st) :=
  fun H locs ls hP hD hS hl => lv_tableIn cx.1 cx.2.1 dg h1 h2 ho ht (kk H locs ls hP hD hS hl)
theorem j_tableOut (cx : Cx p s m args meth c cc nL own Ts D tys) {dflt lo hi : Int} {offs : Array Int} {len : Nat} {x : Int32} {tgt : Nat} (dg : decode cc pc = .ok (.tableswitch dflt lo hi offs, len)) (h : x.toInt < lo ∨ hi < x.toInt) (ht : (pc : Int) + dflt = (tgt : Int)) (kk : J p l e R s m args below meth c nL D A cells slots Q Bs tgt lv st) : J p l e R s m args below meth c nL D A cells slots Q Bs pc lv (.int x :: st) :=
  fun H locs ls hP hD hS hl => lv_tableOut cx.1 cx.2.1 dg h ht (kk H locs ls hP hD hS hl)
theorem j_lookup (cx : Cx p s m args meth c cc nL own Ts D tys) {dflt : Int} {ps : Array (Int × Int)} {len : Nat} {x : Int32} {off : Int} {tgt : Nat} (dg : decode cc pc = .ok (.lookupswitch dflt ps, len)) (hp : (ps.toList.zip (ps.toList.drop 1)).all (fun (a, next) => a.1 < next.1) = true) (ho : Op.lookupswitch.offset ps.toList dflt x.toInt = off) (ht : (pc : Int) + off = (tgt : Int)) (kk : J p l e R s m args below meth c nL D A cells slots Q Bs tgt lv st) : J p l e R s m args below meth c nL D A cells slots Q Bs pc lv (.int x :: st) :=
  fun H locs ls hP hD hS hl => lv_lookup cx.1 cx.2.1 dg hp ho ht (kk H locs ls hP hD hS hl)
/-- a field read: block i, place j of it, field k -/
theorem j_get (cx : Cx p s m args meth c cc nL own Ts D tys) {ref C : String} {T : u_T} {N ci index : Nat} (i j : Nat) {b : va_W} {a : Nat} {fs : List Value} (h1 : Bs[i]? = some b) (h2 : b[j]? = some (a, .inr (ci, fs))) (hc : vwCl[ci]? = some (C, T, N)) (hin : ∀ w ∈ u_ws C T N, w ∈ Ts) (k : Nat) (hk : k < N) (hlink : Cond.fieldLink own index ref (T k).2.1 (T k).2.2.1 ∈ Ts) (href : (T k).1 = ref) {v : Value} (hv : fs[k]? = some v) (dg : decode cc pc = .ok (.getfield index, 3)) (kk : J p l e R s m args below meth c nL D A cells slots Q Bs (pc + 3) lv (v :: st)) : J p l e R s m args below meth c nL D A cells slots Q Bs pc lv (.ref a :: st) := by
  intro H locs ls hP hD hS hl
  obtain ⟨k0, g1, -⟩ := fl_pl h1 h2
  refine va_get cx.1 cx.2.1 cx.2.2.2.2.1 hin cx.2.2.2.1 cx.2.2.2.2.2.1 hP k0 g1 hc k hk (cx.2.2.2.2.1 _ hlink) (fun x h9 => href ▸ h9) hv dg (kk H locs ls hP hD hS hl)
theorem j_put (cx : Cx p s m args meth c cc nL own Ts D tys) {ref C : String} {T : u_T} {N ci index : Nat} (i j : Nat) {b : va_W} {a : Nat} {fs : List Value} (h1 : Bs[i]? = some b) (h2 : b[j]? = some (a, .inr (ci, fs))) (hc : vwCl[ci]? = some (C, T, N)) (hin : ∀ w ∈ u_ws C T N, w ∈ Ts) (ty0 : Nat → FieldType) (hty : ∀ k, k < N → parseFieldDescriptor (T k).2.2.1 = some (ty0 k)) (hnm : ∀ a, a < N → ∀ b, b < N → a ≠ b → (T a).2.1 ≠ (T b).2.1) (k : Nat) (hk : k < N) (hlink : Cond.fieldLink own index ref (T k).2.1 (T k).2.2.1 ∈ Ts) (href : (T k).1 = ref) (hfin : (T k).2.2.2 = false) {v : Value} (hn : narrow (ty0 k) v = v) (hfit : fits (ty0 k) v = true) (hl0 : k < fs.length) {Bs' : List va_W} (hB : Bs.set i (b.set j (a, .inr (ci, fs.set k v))) = Bs') (dg : decode cc pc = .ok (.putfield index, 3)) (kk : J p l e R s m args below meth c nL D A cells slots Q Bs' (pc + 3) lv st) : J p l e R s m args below meth c nL D A cells slots Q Bs pc lv (v :: .ref a :: st) := by
  intro H locs ls hP hD hS hl
  obtain ⟨k0, g1, g2⟩ := fl_pl h1 h2
  refine va_put cx.1 cx.2.1 cx.2.2.2.2.1 hin ty0 hty hnm cx.2.2.2.1 cx.2.2.2.2.2.1 hP hD hS k0 g1 hc k hk (cx.2.2.2.2.1 _ hlink) (fun x h9 => href ▸ h9) hfin (hty k hk) hn hfit hl0 dg (fun H1 locs1 hP1 hD1 hS1 => ?_)
  rw [g2, hB] at hP1 hD1
  exact kk H1 locs1 ls hP1 hD1 hS1 hl
theorem j_putF (cx : Cx p s m args meth c cc nL own Ts D tys) (hini : meth.name = "<init>") {C : String} {T : u_T} {N ci index : Nat} (i j : Nat) {b : va_W} {a : Nat} {fs : List Value} (h1 : Bs[i]? = some b) (h2 : b[j]? = some (a, .inr (ci, fs))) (hc : vwCl[ci]? = some (C, T, N)) (hin : ∀ w ∈ u_ws C T N, w ∈ Ts) (ty0 : Nat → FieldType) (hty : ∀ k, k < N → parseFieldDescriptor (T k).2.2.1 = some (ty0 k)) (hnm : ∀ a, a < N → ∀ b, b < N → a ≠ b → (T a).2.1 ≠ (T b).2.1) (k : Nat) (hk : k < N) (hlink : Cond.fieldLink own index own (T k).2.1 (T k).2.2.1 ∈ Ts) (href : (T k).1 = own) (hfin : (T k).2.2.2 = true) {v : Value} (hn : narrow (ty0 k) v = v) (hfit : fits (ty0 k) v = true) (hl0 : k < fs.length) {Bs' : List va_W} (hB : Bs.set i (b.set j (a, .inr (ci, fs.set k v))) = Bs') (dg : decode cc pc = .ok (.putfield index, 3)) (kk : J p l e R s m args below meth c nL D A cells slots Q Bs' (pc + 3) lv st) : J p l e R s m args below meth c nL D A cells slots Q Bs pc lv (v :: .ref a :: st) := by
  intro H locs ls hP hD hS hl
  obtain ⟨k0, g1, g2⟩ := fl_pl h1 h2
  refine va_putF (ref := own) cx.1 cx.2.1 cx.2.2.2.2.1 hin ty0 hty hnm cx.2.2.2.1 cx.2.2.2.2.2.1 hP hD hS k0 g1 hc k hk (cx.2.2.2.2.1 _ hlink) (fun x h9 => href ▸ h9) hfin hini href (hty k hk) hn hfit hl0 dg (fun H1 locs1 hP1 hD1 hS1 => ?_)
  rw [g2, hB] at hP1 hD1
  exact kk H1 locs1 ls hP1 hD1 hS1 hl
theorem j_iald (cx : Cx p s m args meth c cc nL own Ts D tys) (i j t0 : Nat) {b : va_W} {a n : Nat} {cA : ClassId} {f : Nat → Int32} (h1 : Bs[i]? = some b) (h2 : b[j]? = some (a, .inl (cA, n, .inl f))) (ht : tys[t0]? = some (cA, .int)) {k : Nat} (hk : k < n) (hn : n < 2 ^ 31) (dg : decode cc pc = .ok (.iaload, 1)) (kk : J p l e R s m args below meth c nL D A cells slots Q Bs (pc + 1) lv (.int (f k) :: st)) : J p l e R s m args below meth c nL D A cells slots Q Bs pc lv (.int (nI k) :: .ref a :: st) := by
  intro H locs ls hP hD hS hl
  obtain ⟨k0, g1, -⟩ := fl_pl h1 h2
  refine va_iald cx.1 cx.2.1 cx.2.2.2.2.2.1 hP k0 t0 g1 ht (vp_in_nI hk hn) dg ?_
  rw [nI_clamp (Nat.lt_trans hk hn)]
  exact kk H locs ls hP hD hS hl
theorem j_cald (cx : Cx p s m args meth c cc nL own Ts D tys) (i j t0 : Nat) {b : va_W} {a n : Nat} {cA : ClassId} {f : Nat → Int32} (h1 : Bs[i]? = some b) (h2 : b[j]? = some (a, .inl (cA, n, .inl f))) (ht : tys[t0]? = some (cA, .char)) {k : Nat} (hk : k < n) (hn : n < 2 ^ 31) (dg : decode cc pc = .ok (.caload, 1)) (kk : J p l e R s m args below meth c nL D A cells slots Q Bs (pc + 1) lv (.int (f k) :: st)) : J p l e R s m args below meth c nL D A cells slots Q Bs pc lv (.int (nI k) :: .ref a :: st) := by
  intro H locs ls hP hD hS hl
  obtain ⟨k0, g1, -⟩ := fl_pl h1 h2
  refine va_cald cx.1 cx.2.1 cx.2.2.2.2.2.1 hP k0 t0 g1 ht (vp_in_nI hk hn) dg ?_
  rw [nI_clamp (Nat.lt_trans hk hn)]
  exact kk H locs ls hP hD hS hl
theorem j_aald (cx : Cx p s m args meth c cc nL own Ts D tys) (i j t0 : Nat) {b : va_W} {a n : Nat} {cA : ClassId} {C : String} {f : Nat → Option Nat} (h1 : Bs[i]? = some b) (h2 : b[j]? = some (a, .inl (cA, n, .inr (.inr (.inr (.inr f)))))) (ht : tys[t0]? = some (cA, .object C)) {k : Nat} (hk : k < n) (hn : n < 2 ^ 31) {a' : Nat} (hv : f k = some a') (dg : decode cc pc = .ok (.aaload, 1)) (kk : J p l e R s m args below meth c nL D A cells slots Q Bs (pc + 1) lv (.ref a' :: st)) : J p l e R s m args below meth c nL D A cells slots Q Bs pc lv (.int (nI k) :: .ref a :: st) := by
  intro H locs ls hP hD hS hl
  obtain ⟨k0, g1, -⟩ := fl_pl h1 h2
  refine va_aldq cx.1 cx.2.1 cx.2.2.2.2.2.1 hP k0 t0 g1 ht (vp_in_nI hk hn) dg ?_
  rw [nI_clamp (Nat.lt_trans hk hn), hv]
  exact kk H locs ls hP hD hS hl
theorem j_iast (cx : Cx p s m args meth c cc nL own Ts D tys) (i j t0 : Nat) {b : va_W} {a n : Nat} {cA : ClassId} {f : Nat → Int32} (h1 : Bs[i]? = some b) (h2 : b[j]? = some (a, .inl (cA, n, .inl f))) (ht : tys[t0]? = some (cA, .int)) {k : Nat} {x : Int32} (hk : k < n) (hn : n < 2 ^ 31) {Bs' : List va_W} (hB : Bs.set i (b.set j (a, .inl (cA, n, .inl (upd f k x)))) = Bs') (dg : decode cc pc = .ok (.iastore, 1)) (kk : J p l e R s m args below meth c nL D A cells slots Q Bs' (pc + 1) lv st) : J p l e R s m args below meth c nL D A cells slots Q Bs pc lv (.int x :: .int (nI k) :: .ref a :: st) := by
  intro H locs ls hP hD hS hl
  obtain ⟨k0, g1, g2⟩ := fl_pl h1 h2
  refine va_iast cx.1 cx.2.1 cx.2.2.2.2.2.1 hP hD hS k0 t0 g1 ht (vp_in_nI hk hn) dg (fun H1 locs1 hP1 hD1 hS1 => ?_)
  rw [nI_clamp (Nat.lt_trans hk hn), g2, hB] at hP1 hD1
  exact kk H1 locs1 ls hP1 hD1 hS1 hl
theorem j_cast (cx : Cx p s m args meth c cc nL own Ts D tys) (i j t0 : Nat) {b : va_W} {a n : Nat} {cA : ClassId} {f : Nat → Int32} (h1 : Bs[i]? = some b) (h2 : b[j]? = some (a, .inl (cA, n, .inl f))) (ht : tys[t0]? = some (cA, .char)) {k : Nat} {x : Int32} (hk : k < n) (hn : n < 2 ^ 31) (hx : vp_nar .char x = x) {Bs' : List va_W} (hB : Bs.set i (b.set j (a, .inl (cA, n, .inl (upd f k x)))) = Bs') (dg : decode cc pc = .ok (.castore, 1)) (kk : J p l e R s m args below meth c nL D A cells slots Q Bs' (pc + 1) lv st) : J p l e R s m args below meth c nL D A cells slots Q Bs pc lv (.int x :: .int (nI k) :: .ref a :: st) := by
  intro H locs ls hP hD hS hl
  obtain ⟨k0, g1, g2⟩ := fl_pl h1 h2
  refine va_cast cx.1 cx.2.1 cx.2.2.2.2.2.1 hP hD hS k0 t0 g1 ht (vp_in_nI hk hn) dg (fun H1 locs1 hP1 hD1 hS1 => ?_)
  rw [nI_clamp (Nat.lt_trans hk hn), hx, g2, hB] at hP1 hD1
  exact kk H1 locs1 ls hP1 hD1 hS1 hl
theorem j_aast (cx : Cx p s m args meth c cc nL own Ts D tys) (i j i2 j2 t0 ci : Nat) {b b2 : va_W} {a n v : Nat} {cA : ClassId} {r : vw_C} {vs : List Value} {f : Nat → Option Nat} (h1 : Bs[i]? = some b) (h2 : b[j]? = some (a, .inl (cA, n, .inr (.inr (.inr (.inr f)))))) (ht : tys[t0]? = some (cA, .object r.1)) (h3 : Bs[i2]? = some b2) (h4 : b2[j2]? = some (v, .inr (ci, vs))) (hc : vwCl[ci]? = some r) {k : Nat} (hk : k < n) (hn : n < 2 ^ 31) {Bs' : List va_W} (hB : Bs.set i (b.set j (a, .inl (cA, n, .inr (.inr (.inr (.inr (va_up f k (some v)))))))) = Bs') (dg : decode cc pc = .ok (.aastore, 1)) (kk : J p l e R s m args below meth c nL D A cells slots Q Bs' (pc + 1) lv st) : J p l e R s m args below meth c nL D A cells slots Q Bs pc lv (.ref v :: .int (nI k) :: .ref a :: st) := by
  intro H locs ls hP hD hS hl
  obtain ⟨k0, g1, g2⟩ := fl_pl h1 h2
  obtain ⟨k1, g3, -⟩ := fl_pl h3 h4
  refine va_astq cx.1 cx.2.1 cx.2.2.2.2.2.1 hP hD hS k0 t0 k1 ci g1 ht g3 hc (vp_in_nI hk hn) dg (fun H1 locs1 hP1 hD1 hS1 => ?_)
  rw [nI_clamp (Nat.lt_trans hk hn), g2, hB] at hP1 hD1
  exact kk H1 locs1 ls hP1 hD1 hS1 hl
/-- System.arraycopy of whole numbers from place 0 to place 0 -/
theorem j_copy (cx : Cx p s m args meth c cc nL own Ts D tys) {index : Nat} (hlink : Cond.methodLink own index arraycopyName ∈ Ts) (hnat : Cond.native arraycopyName ∈ Ts) (hstat : Cond.static arraycopyName ∈ Ts) (hini : Cond.initialized "java/lang/System" ∈ Ts) (i0 j0 i1 j1 t0 : Nat) {b0 b1 : va_W} {a0 a1 n0 n1 : Nat} {cA : ClassId} {f g : Nat → Int32} (h1 : Bs[i0]? = some b0) (h2 : b0[j0]? = some (a0, .inl (cA, n0, .inl f))) (h3 : Bs[i1]? = some b1) (h4 : b1[j1]? = some (a1, .inl (cA, n1, .inl g))) (ht : tys[t0]? = some (cA, .int)) {k : Nat} (hk0 : k ≤ n0) (hk1 : k ≤ n1) (hkb : k < 2 ^ 31) (hfr : 1 ≤ R.frames) (hlo : (st.map fun v => v.category).sum + (nativeFrameWords "java/lang/System" "arraycopy" 5 + 11) ≤ R.locals) {Bs' : List va_W} (hB : Bs.set i1 (b1.set j1 (a1, .inl (cA, n1, .inl (va_cpy f g 0 0 k)))) = Bs') (dg : decode cc pc = .ok (.invokestatic index, 3)) (kk : J p l e R s m args below meth c nL D A cells slots Q Bs' (pc + 3) lv st) : J p l e R s m args below meth c nL D A cells slots Q Bs pc lv (.int (nI k) :: .int (nI 0) :: .ref a1 :: .int (nI 0) :: .ref a0 :: st) := by
  intro H locs ls hP hD hS hl
  obtain ⟨q0, g1, -⟩ := fl_pl h1 h2
  obtain ⟨q1, g3, g4⟩ := fl_pl h3 h4
  have e0 : (nI 0).toNatClampNeg = 0 := nI_clamp (by decide)
  have ek : (nI k).toNatClampNeg = k := nI_clamp hkb
  refine va_copyi cx.1 cx.2.1 (by rw [cx.2.2.1]; exact hl.1.symm) cx.2.2.2.1 (cx.2.2.2.2.1 _ hlink) (cx.2.2.2.2.1 _ hnat) (cx.2.2.2.2.1 _ hstat) (cx.2.2.2.2.1 _ hini) cx.2.2.2.2.2.1 hP hD hS q0 q1 t0 t0 g1 g3 ht ht rfl (nI_pos (by decide)) (nI_pos (by decide)) (nI_pos hkb) (by rw [e0, ek]; omega) (by rw [e0, ek]; omega) (fun _ _ => rfl) hfr hlo dg (fun H1 locs1 hP1 hD1 hS1 => ?_)
  rw [e0, ek, g4, hB] at hP1 hD1
  exact kk H1 locs1 ls hP1 hD1 hS1 hl
/-- the contract of a method that makes nothing: from the blocks Bs it returns, its answer is r, the blocks are Bs' then -/
def CtI (l : Launch) (y : MethodName) (ws : List Cond) (fr lo : Nat) (D : va_G) (tys : List (ClassId × FieldType)) (Bs : List va_W) (avs : List Value) (r : Int32) (Bs' : List va_W) : Prop :=
  Met l y ws { frames := fr, cells := 0, slots := 0, locals := lo } (va_Pc avs (fun U => va_P D vwCl Bs.flatten U.heap ∧ va_K D vwCl tys U ∧ va_D (fun _ => True) Bs.flatten)) (va_Qi (S := Unit) (fun r' _ => r' = r) (fun _ t => va_P D vwCl Bs'.flatten t.heap) (bA Bs)) 0 0 (bA Bs)
def CtV (l : Launch) (y : MethodName) (ws : List Cond) (fr lo : Nat) (D : va_G) (tys : List (ClassId × FieldType)) (Bs : List va_W) (avs : List Value) (Bs' : List va_W) : Prop :=
  Met l y ws { frames := fr, cells := 0, slots := 0, locals := lo } (va_Pc avs (fun U => va_P D vwCl Bs.flatten U.heap ∧ va_K D vwCl tys U ∧ va_D (fun _ => True) Bs.flatten)) (va_Qv (S := Unit) (fun _ => True) (fun _ t => va_P D vwCl Bs'.flatten t.heap) (bA Bs)) 0 0 (bA Bs)
theorem ct_blind {Bs : List va_W} {avs : List Value} : FrameBlind (va_Pc avs (fun U => va_P D vwCl Bs.flatten U.heap ∧ va_K D vwCl tys U ∧ va_D (fun _ => True) Bs.flatten)) := fun a U g mk q => by
  obtain ⟨q0, qP, qK, qD⟩ := q
  exact ⟨q0, qP, va_K.moved (u := U) (U := U.calling g mk a) (Vm.Alike.refl U.vm) qK, qD⟩
section CALLS
variable {y : MethodName} {ws ws0 : List Cond} {fr lo maxL : Nat} {bytes : ByteArray} {ret : Option FieldType} {Bc Bc' Bs' : List va_W} {As : List Value} {stk : List Value} {C : String} {b index : Nat}
theorem j_recv (cx : Cx p s m args meth c cc nL own Ts D tys) {H : Heap} (hP : va_P D vwCl Bs.flatten H) (i j : Nat) {bk : va_W} {ci : Nat} {fs : List Value} {T : u_T} {N : Nat} (h1 : Bs[i]? = some bk) (h2 : bk[j]? = some (b, .inr (ci, fs))) (hc : vwCl[ci]? = some (C, T, N)) : ∃ cell : Cell, H[b]? = some cell ∧ cell.vm.isStatics = false ∧ s.vm.findClass C = some cell.cls := by
  obtain ⟨k0, g1, -⟩ := fl_pl h1 h2
  exact va_recv cx.2.2.2.2.2.1 hP hc g1
theorem j_calli (cx : Cx p s m args meth c cc nL own Ts D tys) (n : Nat) {r : Int32} (hM : CtI l y ws fr lo D tys Bc (.ref b :: As) r Bc') (hG : GoodIn Ts (wsV own index C y ws)) (hw : ws = Cond.code y bytes maxL ret :: ws0) (hd : y.cls = C ∧ y.cls ≠ "java/lang/invoke/MethodHandle" ∧ y.cls ≠ "java/lang/invoke/VarHandle" ∧ (parseMethodDescriptor y.desc).map (fun d => d.parameters.length) = some n) (hnA : As.length = n) (hR : fr + 1 ≤ R.frames ∧ 8 + (maxL + 11) + lo ≤ R.locals) (sel : List Nat) (hsel : sel.map (fun i => Bs[i]?) = Bc.map some) (hnd : va_nd sel = true) (hB : putL Bs sel Bc' = Bs') (had : adr Bc' = adr Bc) (i j : Nat) {bk : va_W} {ci : Nat} {fs : List Value} {T : u_T} {N : Nat} (h1 : Bs[i]? = some bk) (h2 : bk[j]? = some (b, .inr (ci, fs))) (hc : vwCl[ci]? = some (C, T, N)) (hst : stk = As.reverse ++ .ref b :: st) (hcat : (st.map fun v => v.category).sum ≤ 8) (dg : decode cc pc = .ok (.invokevirtual index, 3)) (hroom : cells ≤ R.cells ∧ slots ≤ R.slots) (kk : J p l e R s m args below meth c nL D A cells slots Q Bs' (pc + 3) lv (.int r :: st)) : J p l e R s m args below meth c nL D A cells slots Q Bs pc lv stk := by
  intro H locs ls hP hD hS hl
  subst hst
  obtain ⟨gP, gD, gA⟩ := fl_sub hP hD hsel hnd
  refine va_calli (va_runV (As := As) (rest := st) ⟨cx.1, cx.2.1, cx.2.2.1, cx.2.2.2.1, cx.2.2.2.2.1⟩ hM (cwV n cx.2.2.2.2.1 hG hw rfl rfl hd hR) ⟨ct_blind, j_recv cx hP i j h1 h2 hc, fun U hU hW => ⟨rfl, by rw [hU]; exact gP, va_K.moved hW.alike cx.2.2.2.2.2.1, gD.weaken (fun _ _ _ _ => trivial)⟩⟩ rfl hnA hl.1 rfl (lv_room hcat) dg ⟨hroom.1, hroom.2⟩) hS (fun q _ h => gA q h) gA (fun r' u t H1 locs1 ht hvm hw2 hB2 hz hk hS1 => ?_)
  subst hw2
  rw [ht] at hB2
  obtain ⟨nP, nD⟩ := fl_call hP hD hsel hnd hB had hk hB2
  exact kk H1 locs1 ls nP nD hS1 hl
theorem j_callv (cx : Cx p s m args meth c cc nL own Ts D tys) (n : Nat) (hM : CtV l y ws fr lo D tys Bc (.ref b :: As) Bc') (hG : GoodIn Ts (wsV own index C y ws)) (hw : ws = Cond.code y bytes maxL ret :: ws0) (hd : y.cls = C ∧ y.cls ≠ "java/lang/invoke/MethodHandle" ∧ y.cls ≠ "java/lang/invoke/VarHandle" ∧ (parseMethodDescriptor y.desc).map (fun d => d.parameters.length) = some n) (hnA : As.length = n) (hR : fr + 1 ≤ R.frames ∧ 8 + (maxL + 11) + lo ≤ R.locals) (sel : List Nat) (hsel : sel.map (fun i => Bs[i]?) = Bc.map some) (hnd : va_nd sel = true) (hB : putL Bs sel Bc' = Bs') (had : adr Bc' = adr Bc) (i j : Nat) {bk : va_W} {ci : Nat} {fs : List Value} {T : u_T} {N : Nat} (h1 : Bs[i]? = some bk) (h2 : bk[j]? = some (b, .inr (ci, fs))) (hc : vwCl[ci]? = some (C, T, N)) (hst : stk = As.reverse ++ .ref b :: st) (hcat : (st.map fun v => v.category).sum ≤ 8) (dg : decode cc pc = .ok (.invokevirtual index, 3)) (hroom : cells ≤ R.cells ∧ slots ≤ R.slots) (kk : J p l e R s m args below meth c nL D A cells slots Q Bs' (pc + 3) lv st) : J p l e R s m args below meth c nL D A cells slots Q Bs pc lv stk := by
  intro H locs ls hP hD hS hl
  subst hst
  obtain ⟨gP, gD, gA⟩ := fl_sub hP hD hsel hnd
  refine va_callv (va_runV (As := As) (rest := st) ⟨cx.1, cx.2.1, cx.2.2.1, cx.2.2.2.1, cx.2.2.2.2.1⟩ hM (cwV n cx.2.2.2.2.1 hG hw rfl rfl hd hR) ⟨ct_blind, j_recv cx hP i j h1 h2 hc, fun U hU hW => ⟨rfl, by rw [hU]; exact gP, va_K.moved hW.alike cx.2.2.2.2.2.1, gD.weaken (fun _ _ _ _ => trivial)⟩⟩ rfl hnA hl.1 rfl (lv_room hcat) dg ⟨hroom.1, hroom.2⟩) hS (fun q _ h => gA q h) gA (fun u t H1 locs1 ht hvm hw2 hB2 hz hk hS1 => ?_)
  rw [ht] at hB2
  obtain ⟨nP, nD⟩ := fl_call hP hD hsel hnd hB had hk hB2
  exact kk H1 locs1 ls nP nD hS1 hl
/-- a static method of whole numbers: no blocks -/
theorem j_calls (cx : Cx p s m args meth c cc nL own Ts D tys) (n : Nat) {r : Int32} (hM : CtI l y ws fr lo D tys [] As r []) (hG : GoodIn Ts (va_wsS own index y ws)) (hw : ws = Cond.code y bytes maxL ret :: ws0) (hd : y.cls ≠ "java/lang/invoke/MethodHandle" ∧ y.cls ≠ "java/lang/invoke/VarHandle" ∧ (parseMethodDescriptor y.desc).map (fun d => d.parameters.length) = some n) (hnA : As.length = n) (hR : fr + 1 ≤ R.frames ∧ 8 + (maxL + 11) + lo ≤ R.locals) (hst : stk = As.reverse ++ st) (hcat : (st.map fun v => v.category).sum ≤ 8) (dg : decode cc pc = .ok (.invokestatic index, 3)) (hroom : cells ≤ R.cells ∧ slots ≤ R.slots) (kk : J p l e R s m args below meth c nL D A cells slots Q Bs (pc + 3) lv (.int r :: st)) : J p l e R s m args below meth c nL D A cells slots Q Bs pc lv stk := by
  intro H locs ls hP hD hS hl
  subst hst
  have hsel : ([] : List Nat).map (fun i => Bs[i]?) = ([] : List va_W).map some := rfl
  obtain ⟨gP, gD, gA⟩ := fl_sub hP hD hsel rfl
  refine va_calli (va_runS (As := As) (rest := st) ⟨cx.1, cx.2.1, cx.2.2.1, cx.2.2.2.1, cx.2.2.2.2.1⟩ hM (va_cwS n cx.2.2.2.2.1 hG hw rfl rfl hd hR) ⟨ct_blind, fun U hU hW => ⟨rfl, by rw [hU]; exact gP, va_K.moved hW.alike cx.2.2.2.2.2.1, gD.weaken (fun _ _ _ _ => trivial)⟩⟩ rfl hnA hl.1 rfl (lv_room hcat) dg ⟨hroom.1, hroom.2⟩) hS (fun q _ h => gA q h) gA (fun r' u t H1 locs1 ht hvm hw2 hB2 hz hk hS1 => ?_)
  subst hw2
  rw [ht] at hB2
  obtain ⟨nP, nD⟩ := fl_call hP hD hsel rfl (Bs' := Bs) rfl rfl hk hB2
  exact kk H1 locs1 ls nP nD hS1 hl
end CALLS
/-- the end of a method of whole numbers, of one that answers a boolean, of one that answers nothing -/
theorem j_iret {B0 Bs' : List va_W} {x r : Int32} (cx : Cx p s m args meth c cc nL own Ts D tys) (hr : meth.sig.returnType = some .int) (hx : x = r) (hB : Bs = Bs') (hA : A = bA B0) (dg : decode cc pc = .ok (.ireturn, 1)) : J p l e R s m args below meth c nL D A cells slots (MQ below (va_Qi (S := Unit) (fun r' _ => r' = r) (fun _ t => va_P D vwCl Bs'.flatten t.heap) (bA B0)) args s cells slots (bA B0)) Bs pc lv [.int x] := by
  intro H locs ls hP hD hS hl
  subst hB; subst hx; subst hA
  exact W.iret (v := x) cx.1 cx.2.1 hr (fun t ht hW => ⟨⟨x, (), rfl, rfl, by show va_P _ _ _ t.heap; rw [ht]; exact hP⟩, hS.F ht⟩) hS.2.2 dg cx.2.2.2.2.2.2
theorem j_zret {B0 Bs' : List va_W} {x r : Int32} (cx : Cx p s m args meth c cc nL own Ts D tys) (hr : meth.sig.returnType = some .boolean) (hn : narrow .boolean (.int x) = .int x) (hx : x = r) (hB : Bs = Bs') (hA : A = bA B0) (dg : decode cc pc = .ok (.ireturn, 1)) : J p l e R s m args below meth c nL D A cells slots (MQ below (va_Qi (S := Unit) (fun r' _ => r' = r) (fun _ t => va_P D vwCl Bs'.flatten t.heap) (bA B0)) args s cells slots (bA B0)) Bs pc lv [.int x] := by
  intro H locs ls hP hD hS hl
  subst hB; subst hx; subst hA
  exact W.zret (v := x) cx.1 cx.2.1 hr hn (fun t ht hW => ⟨⟨x, (), rfl, rfl, by show va_P _ _ _ t.heap; rw [ht]; exact hP⟩, hS.F ht⟩) hS.2.2 dg cx.2.2.2.2.2.2
theorem j_vret {B0 Bs' : List va_W} (cx : Cx p s m args meth c cc nL own Ts D tys) (hr : meth.sig.returnType = none) (hB : Bs = Bs') (hA : A = bA B0) (dg : decode cc pc = .ok (.return_, 1)) : J p l e R s m args below meth c nL D A cells slots (MQ below (va_Qv (S := Unit) (fun _ => True) (fun _ t => va_P D vwCl Bs'.flatten t.heap) (bA B0)) args s cells slots (bA B0)) Bs pc lv [] := by
  intro H locs ls hP hD hS hl
  subst hB; subst hA
  exact W.vret cx.1 cx.2.1 hr (fun t ht hW => ⟨⟨(), rfl, trivial, by show va_P _ _ _ t.heap; rw [ht]; exact hP⟩, hS.F ht⟩) hS.2.2 dg cx.2.2.2.2.2.2
end JR
theorem CtI.intro {own : String} {l : Launch} {y : MethodName} {ws ws0 : List Cond} {fr lo : Nat} {D : va_G} {tys : List (ClassId × FieldType)} {Bs Bs' : List va_W} {avs : List Value} {r : Int32} {cc : ByteArray} {maxL : Nat} {ret : Option FieldType} (ho : y.cls = own) (hy : plainName own = true) (hw : ws = Cond.code y cc maxL ret :: ws0) (hle : (lg_sl avs).length ≤ maxL)
    (body : ∀ (p : Program) (e : Env) (s : State) (m : MethodId) (args : Array Value) (below : List Frame) (meth : Method) (c : Code) (A : Nat → Prop) (Q : State → Prop), A = bA Bs → Q = MQ below (va_Qi (S := Unit) (fun r' _ => r' = r) (fun _ t => va_P D vwCl Bs'.flatten t.heap) (bA Bs)) args s 0 0 (bA Bs) → Cx p s m args meth c cc maxL own ws D tys → meth.sig.returnType = ret → J p l e { frames := fr, cells := 0, slots := 0, locals := lo } s m args below meth c maxL D A 0 0 Q Bs 0 (lv_args 0 avs) []) : CtI l y ws fr lo D tys Bs avs r Bs' := by
  subst ho
  refine Met.ofW (cc := cc) (maxL := maxL) (ret := ret) hy hw ?_
  intro p e s m args below meth c s₁ B hml hv
  obtain ⟨rfl, hP, hK, hD⟩ := hv
  rw [lg_entry_eq]
  refine body p e s m avs.toArray below meth c (bA Bs) _ rfl rfl ⟨B.exec, B.bytes, hml, findClass_of_methodNamed B.named, atoms_spec (ws := ws) B.pre, hK, B.notSynchronized⟩ B.returns s.heap [] _ hP ?_ va_S.rf (lv_entry avs hle)
  exact hD.weaken (fun k q hk _ => ⟨q, List.mem_of_getElem? hk, rfl⟩)
theorem CtV.intro {own : String} {l : Launch} {y : MethodName} {ws ws0 : List Cond} {fr lo : Nat} {D : va_G} {tys : List (ClassId × FieldType)} {Bs Bs' : List va_W} {avs : List Value} {cc : ByteArray} {maxL : Nat} (ho : y.cls = own) (hy : plainName own = true) (hw : ws = Cond.code y cc maxL none :: ws0) (hle : (lg_sl avs).length ≤ maxL)
    (body : ∀ (p : Program) (e : Env) (s : State) (m : MethodId) (args : Array Value) (below : List Frame) (meth : Method) (c : Code) (A : Nat → Prop) (Q : State → Prop), A = bA Bs → Q = MQ below (va_Qv (S := Unit) (fun _ => True) (fun _ t => va_P D vwCl Bs'.flatten t.heap) (bA Bs)) args s 0 0 (bA Bs) → Cx p s m args meth c cc maxL own ws D tys → meth.sig.returnType = none → J p l e { frames := fr, cells := 0, slots := 0, locals := lo } s m args below meth c maxL D A 0 0 Q Bs 0 (lv_args 0 avs) []) : CtV l y ws fr lo D tys Bs avs Bs' := by
  subst ho
  refine Met.ofW (cc := cc) (maxL := maxL) (ret := none) hy hw ?_
  intro p e s m args below meth c s₁ B hml hv
  obtain ⟨rfl, hP, hK, hD⟩ := hv
  rw [lg_entry_eq]
  refine body p e s m avs.toArray below meth c (bA Bs) _ rfl rfl ⟨B.exec, B.bytes, hml, findClass_of_methodNamed B.named, atoms_spec (ws := ws) B.pre, hK, B.notSynchronized⟩ B.returns s.heap [] _ hP ?_ va_S.rf (lv_entry avs hle)
  exact hD.weaken (fun k q hk _ => ⟨q, List.mem_of_getElem? hk, rfl⟩)
